/-- a static field of an enum: the constant i of Sign, of Operator -/
theorem x_gSN {E : xR} {M : xM} {R : Room} {Q : xK} {n : Nat} {h : xH} {pc : Nat} {lv : List (Nat × Value)} {rest : List Value} {cells slots : Nat} {idx i : Nat} (d : decode M.2.1 pc = .ok (.getstatic idx, 3)) (hi : i < 12) (hw : Cond.fieldLink M.1.cls idx "TermReader$Sign" (x_nmSN.getD i "") "LTermReader$Sign;" ∈ x_Tw) (kk : x_W E M R Q n h (pc + 3) lv (.ref (1000000 + i) :: rest) cells slots) : x_W E M R Q n h pc lv rest cells slots := by
  intro p e s m args below meth c H locs ls C hP hS hl hz
  obtain ⟨hx, hb, hml, hown, hr, hlk, hnm, htb, hT, hK, hL⟩ := id C
  obtain ⟨z1, z2, z3, z4, z5, z6, z7, z8, z9, z10, z11, z12, z13⟩ := hT.2.2.2
  have k2 := kk p e s m args below meth c H locs ls C hP hS hl hz
  change W p (x_l E) e R s m args below meth c H locs cells slots (x_Q E Q below s) (F0 m (pc + 3) ls (.ref (x_r E (1000000 + i)) :: rest.map (x_v E))) at k2
  rw [x_rhi E (Nat.le_add_right _ _)] at k2
  exact va_gets hx hb (z6.1 i hi).1 hS hown (x_hts hT _ hw) (fun _ z => z) d k2
theorem x_gOP {E : xR} {M : xM} {R : Room} {Q : xK} {n : Nat} {h : xH} {pc : Nat} {lv : List (Nat × Value)} {rest : List Value} {cells slots : Nat} {idx i : Nat} (d : decode M.2.1 pc = .ok (.getstatic idx, 3)) (hi : i < 24) (hw : Cond.fieldLink M.1.cls idx "TermReader$Operator" (x_nmOP.getD i "") "LTermReader$Operator;" ∈ x_Tw) (kk : x_W E M R Q n h (pc + 3) lv (.ref (1100000 + i) :: rest) cells slots) : x_W E M R Q n h pc lv rest cells slots := by
  intro p e s m args below meth c H locs ls C hP hS hl hz
  obtain ⟨hx, hb, hml, hown, hr, hlk, hnm, htb, hT, hK, hL⟩ := id C
  obtain ⟨z1, z2, z3, z4, z5, z6, z7, z8, z9, z10, z11, z12, z13⟩ := hT.2.2.2
  have k2 := kk p e s m args below meth c H locs ls C hP hS hl hz
  change W p (x_l E) e R s m args below meth c H locs cells slots (x_Q E Q below s) (F0 m (pc + 3) ls (.ref (x_r E (1100000 + i)) :: rest.map (x_v E))) at k2
  rw [x_rhi E (by omega)] at k2
  exact va_gets hx hb (z7.1 i hi).1 hS hown (x_hts hT _ hw) (fun _ z => z) d k2
theorem x_gALL {E : xR} {M : xM} {R : Room} {Q : xK} {n : Nat} {h : xH} {pc : Nat} {lv : List (Nat × Value)} {rest : List Value} {cells slots : Nat} {idx : Nat} (d : decode M.2.1 pc = .ok (.getstatic idx, 3)) (hw : Cond.fieldLink M.1.cls idx "TermReader$Operator" "ALL" "[LTermReader$Operator;" ∈ x_Tw) (kk : x_W E M R Q n h (pc + 3) lv (.ref 1200000 :: rest) cells slots) : x_W E M R Q n h pc lv rest cells slots := by
  intro p e s m args below meth c H locs ls C hP hS hl hz
  obtain ⟨hx, hb, hml, hown, hr, hlk, hnm, htb, hT, hK, hL⟩ := id C
  obtain ⟨z1, z2, z3, z4, z5, z6, z7, z8, z9, z10, z11, z12, z13⟩ := hT.2.2.2
  exact va_gets hx hb z9 hS hown (x_hts hT _ hw) (fun _ z => z) d (kk p e s m args below meth c H locs ls C hP hS hl hz)
theorem x_gCMP {E : xR} {M : xM} {R : Room} {Q : xK} {n : Nat} {h : xH} {pc : Nat} {lv : List (Nat × Value)} {rest : List Value} {cells slots : Nat} {idx : Nat} (d : decode M.2.1 pc = .ok (.getstatic idx, 3)) (hw : Cond.fieldLink M.1.cls idx "java/lang/String" "COMPACT_STRINGS" "Z" ∈ x_Tw) (kk : x_W E M R Q n h (pc + 3) lv (.int 1 :: rest) cells slots) : x_W E M R Q n h pc lv rest cells slots := by
  intro p e s m args below meth c H locs ls C hP hS hl hz
  obtain ⟨hx, hb, hml, hown, hr, hlk, hnm, htb, hT, hK, hL⟩ := id C
  obtain ⟨z1, z2, z3, z4, z5, z6, z7, z8, z9, z10, z11, z12, z13⟩ := hT.2.2.2
  exact va_gets hx hb z11 hS hown (x_hts hT _ hw) (fun _ z => z) d (kk p e s m args below meth c H locs ls C hP hS hl hz)
theorem x_aALL {E : xR} {M : xM} {R : Room} {Q : xK} {n : Nat} {h : xH} {pc : Nat} {lv : List (Nat × Value)} {rest : List Value} {cells slots : Nat} {j : Nat} (d : decode M.2.1 pc = .ok (.aaload, 1)) (hj : j < 24) (kk : x_W E M R Q n h (pc + 1) lv (.ref (1100000 + j) :: rest) cells slots) : x_W E M R Q n h pc lv (.int (nI j) :: .ref 1200000 :: rest) cells slots := by
  intro p e s m args below meth c H locs ls C hP hS hl hz
  obtain ⟨hx, hb, hml, hown, hr, hlk, hnm, htb, hT, hK, hL⟩ := id C
  obtain ⟨z1, z2, z3, z4, z5, z6, z7, z8, z9, z10, z11, z12, z13⟩ := hT.2.2.2
  have k2 := kk p e s m args below meth c H locs ls C hP hS hl hz
  change W p (x_l E) e R s m args below meth c H locs cells slots (x_Q E Q below s) (F0 m (pc + 1) ls (.ref (x_r E (1100000 + j)) :: rest.map (x_v E))) at k2
  rw [x_rhi E (by omega)] at k2
  exact vb_tq hx hb z10 hS (vp_in_nI hj (by decide)) (v := .ref (x_sg E (1100000 + j))) (by rw [nI_clamp (by omega)]) d k2
theorem x_lenALL {E : xR} {M : xM} {R : Room} {Q : xK} {n : Nat} {h : xH} {pc : Nat} {lv : List (Nat × Value)} {rest : List Value} {cells slots : Nat} (d : decode M.2.1 pc = .ok (.arraylength, 1)) (kk : x_W E M R Q n h (pc + 1) lv (.int 24 :: rest) cells slots) : x_W E M R Q n h pc lv (.ref 1200000 :: rest) cells slots := by
  intro p e s m args below meth c H locs ls C hP hS hl hz
  obtain ⟨hx, hb, hml, hown, hr, hlk, hnm, htb, hT, hK, hL⟩ := id C
  obtain ⟨z1, z2, z3, z4, z5, z6, z7, z8, z9, z10, z11, z12, z13⟩ := hT.2.2.2
  exact va_tlen hx hb z10 hS (v := 24) rfl d (kk p e s m args below meth c H locs ls C hP hS hl hz)
/-- a field of a constant -/
def x_Fc (own : String) (idx : Nat) (C f d : String) : Prop := Cond.fieldLink own idx C f d ∈ x_Tw ∨ ∃ host : String, Cond.fieldLinkNest own idx C f d host ∈ x_Nw
theorem x_gOF {E : xR} {M : xM} {p : Program} {e : Env} {R : Room} {s : State} {m : MethodId} {args : Array Value} {below : List Frame} {meth : Method} {c : Code} {H : Heap} {locs : List Loc} {cells slots pc : Nat} {Q : State → Prop} {ls : Array Slot} {rest : List Value} {idx q : Nat} {C f dd : String} {v : Value} (hC : x_C E M p s m meth c) (hS : va_S (x_A E) s.heap H locs) (d : decode M.2.1 pc = .ok (.getfield idx, 3)) (hw : x_Fc M.1.cls idx C f dd) (hE : va_OF C f dd v q (x_A E) s s.heap) (kk : W p (x_l E) e R s m args below meth c H locs cells slots Q (F0 m (pc + 3) ls (v :: rest))) : W p (x_l E) e R s m args below meth c H locs cells slots Q (F0 m pc ls (.ref q :: rest)) := by
  obtain ⟨hx, hb, hml, hown, hr, hlk, hnm, htb, hT, hK, hL⟩ := hC
  rcases hw with hw | ⟨host, hw⟩
  · exact vk_getf hx hb hE hS hown (x_hts hT _ hw) (fun _ z => z) d kk
  · obtain ⟨cf, k, fi, f, cell, h1, h2, h3, h4, h5, h6⟩ := hE.kept hS.2.1
    exact va_Wgetf hx hb hown (va_Nw.use rfl (hT.2.1 _ hw)) h1 h2 h3 h4 (v := v) h5 rfl rfl d kk
theorem x_gOPi {E : xR} {M : xM} {R : Room} {Q : xK} {n : Nat} {h : xH} {pc : Nat} {lv : List (Nat × Value)} {rest : List Value} {cells slots : Nat} {idx i k : Nat} {f : String} {vs : List Int32} (d : decode M.2.1 pc = .ok (.getfield idx, 3)) (hi : i < 24) (hq : x_FOP[k]? = some ("TermReader$Operator", f, "I", vs)) (hw : x_Fc M.1.cls idx "TermReader$Operator" f "I") (kk : x_W E M R Q n h (pc + 3) lv (.int (vs.getD i 0) :: rest) cells slots) : x_W E M R Q n h pc lv (.ref (1100000 + i) :: rest) cells slots := by
  intro p e s m args below meth c H locs ls C hP hS hl hz
  obtain ⟨hx, hb, hml, hown, hr, hlk, hnm, htb, hT, hK, hL⟩ := id C
  obtain ⟨z1, z2, z3, z4, z5, z6, z7, z8, z9, z10, z11, z12, z13⟩ := hT.2.2.2
  show W p (x_l E) e R s m args below meth c H locs cells slots (x_Q E Q below s) (F0 m pc ls (.ref (x_r E (1100000 + i)) :: rest.map (x_v E)))
  rw [x_rhi E (by omega)]
  exact x_gOF C hS d hw ((z7.1 i hi).2.2 _ (List.mem_of_getElem? hq)) (kk p e s m args below meth c H locs ls C hP hS hl hz)
theorem x_gOPt {E : xR} {M : xM} {R : Room} {Q : xK} {n : Nat} {h : xH} {pc : Nat} {lv : List (Nat × Value)} {rest : List Value} {cells slots : Nat} {idx i : Nat} (d : decode M.2.1 pc = .ok (.getfield idx, 3)) (hi : i < 24) (hw : x_Fc M.1.cls idx "TermReader$Operator" "text" "Ljava/lang/String;") (kk : x_W E M R Q n h (pc + 3) lv (.ref (2000000 + x_txOP.getD i 0) :: rest) cells slots) : x_W E M R Q n h pc lv (.ref (1100000 + i) :: rest) cells slots := by
  intro p e s m args below meth c H locs ls C hP hS hl hz
  obtain ⟨hx, hb, hml, hown, hr, hlk, hnm, htb, hT, hK, hL⟩ := id C
  obtain ⟨z1, z2, z3, z4, z5, z6, z7, z8, z9, z10, z11, z12, z13⟩ := hT.2.2.2
  show W p (x_l E) e R s m args below meth c H locs cells slots (x_Q E Q below s) (F0 m pc ls (.ref (x_r E (1100000 + i)) :: rest.map (x_v E)))
  rw [x_rhi E (by omega)]
  have k2 := kk p e s m args below meth c H locs ls C hP hS hl hz
  change W p (x_l E) e R s m args below meth c H locs cells slots (x_Q E Q below s) (F0 m (pc + 3) ls (.ref (x_r E (2000000 + x_txOP.getD i 0)) :: rest.map (x_v E))) at k2
  rw [x_rhi E (by omega)] at k2
  exact x_gOF C hS d hw (z8 i hi) k2
theorem x_gSTv {E : xR} {M : xM} {R : Room} {Q : xK} {n : Nat} {h : xH} {pc : Nat} {lv : List (Nat × Value)} {rest : List Value} {cells slots : Nat} {idx i : Nat} (d : decode M.2.1 pc = .ok (.getfield idx, 3)) (hi : i < 33) (hw : x_Fc M.1.cls idx "java/lang/String" "value" "[B") (kk : x_W E M R Q n h (pc + 3) lv (.ref (3000000 + i) :: rest) cells slots) : x_W E M R Q n h pc lv (.ref (2000000 + i) :: rest) cells slots := by
  intro p e s m args below meth c H locs ls C hP hS hl hz
  obtain ⟨hx, hb, hml, hown, hr, hlk, hnm, htb, hT, hK, hL⟩ := id C
  obtain ⟨z1, z2, z3, z4, z5, z6, z7, z8, z9, z10, z11, z12, z13⟩ := hT.2.2.2
  show W p (x_l E) e R s m args below meth c H locs cells slots (x_Q E Q below s) (F0 m pc ls (.ref (x_r E (2000000 + i)) :: rest.map (x_v E)))
  rw [x_rhi E (by omega)]
  have k2 := kk p e s m args below meth c H locs ls C hP hS hl hz
  change W p (x_l E) e R s m args below meth c H locs cells slots (x_Q E Q below s) (F0 m (pc + 3) ls (.ref (x_r E (3000000 + i)) :: rest.map (x_v E))) at k2
  rw [x_rhi E (by omega)] at k2
  exact x_gOF C hS d hw (z5.1 i hi).2.2.1 k2
theorem x_gSTc {E : xR} {M : xM} {R : Room} {Q : xK} {n : Nat} {h : xH} {pc : Nat} {lv : List (Nat × Value)} {rest : List Value} {cells slots : Nat} {idx i : Nat} (d : decode M.2.1 pc = .ok (.getfield idx, 3)) (hi : i < 33) (hw : x_Fc M.1.cls idx "java/lang/String" "coder" "B") (kk : x_W E M R Q n h (pc + 3) lv (.int 0 :: rest) cells slots) : x_W E M R Q n h pc lv (.ref (2000000 + i) :: rest) cells slots := by
  intro p e s m args below meth c H locs ls C hP hS hl hz
  obtain ⟨hx, hb, hml, hown, hr, hlk, hnm, htb, hT, hK, hL⟩ := id C
  obtain ⟨z1, z2, z3, z4, z5, z6, z7, z8, z9, z10, z11, z12, z13⟩ := hT.2.2.2
  show W p (x_l E) e R s m args below meth c H locs cells slots (x_Q E Q below s) (F0 m pc ls (.ref (x_r E (2000000 + i)) :: rest.map (x_v E)))
  rw [x_rhi E (by omega)]
  exact x_gOF C hS d hw (z5.1 i hi).2.1 (kk p e s m args below meth c H locs ls C hP hS hl hz)
/-- the bytes of a String constant -/
theorem x_lenSV {E : xR} {M : xM} {R : Room} {Q : xK} {n : Nat} {h : xH} {pc : Nat} {lv : List (Nat × Value)} {rest : List Value} {cells slots : Nat} {i : Nat} (d : decode M.2.1 pc = .ok (.arraylength, 1)) (hi : i < 33) (kk : x_W E M R Q n h (pc + 1) lv (.int (nI (x_lenS.getD i 0)) :: rest) cells slots) : x_W E M R Q n h pc lv (.ref (3000000 + i) :: rest) cells slots := by
  intro p e s m args below meth c H locs ls C hP hS hl hz
  obtain ⟨hx, hb, hml, hown, hr, hlk, hnm, htb, hT, hK, hL⟩ := id C
  obtain ⟨z1, z2, z3, z4, z5, z6, z7, z8, z9, z10, z11, z12, z13⟩ := hT.2.2.2
  show W p (x_l E) e R s m args below meth c H locs cells slots (x_Q E Q below s) (F0 m pc ls (.ref (x_r E (3000000 + i)) :: rest.map (x_v E)))
  rw [x_rhi E (by omega)]
  exact va_tlen hx hb (z5.1 i hi).2.2.2 hS (v := nI (x_lenS.getD i 0)) rfl d (kk p e s m args below meth c H locs ls C hP hS hl hz)
theorem x_bSV {E : xR} {M : xM} {R : Room} {Q : xK} {n : Nat} {h : xH} {pc : Nat} {lv : List (Nat × Value)} {rest : List Value} {cells slots : Nat} {i : Nat} {j : Int32} (d : decode M.2.1 pc = .ok (.baload, 1)) (hi : i < 33) (hin : vp_in j (x_lenS.getD i 0)) (kk : x_W E M R Q n h (pc + 1) lv (.int ((x_bytS.getD i []).getD j.toNatClampNeg 0) :: rest) cells slots) : x_W E M R Q n h pc lv (.int j :: .ref (3000000 + i) :: rest) cells slots := by
  intro p e s m args below meth c H locs ls C hP hS hl hz
  obtain ⟨hx, hb, hml, hown, hr, hlk, hnm, htb, hT, hK, hL⟩ := id C
  obtain ⟨z1, z2, z3, z4, z5, z6, z7, z8, z9, z10, z11, z12, z13⟩ := hT.2.2.2
  show W p (x_l E) e R s m args below meth c H locs cells slots (x_Q E Q below s) (F0 m pc ls (.int j :: .ref (x_r E (3000000 + i)) :: rest.map (x_v E)))
  rw [x_rhi E (by omega)]
  exact va_tb hx hb (z5.1 i hi).2.2.2 hS hin (v := .int ((x_bytS.getD i []).getD j.toNatClampNeg 0)) rfl d (kk p e s m args below meth c H locs ls C hP hS hl hz)
/-- ldc of a String -/
theorem x_ldcS {E : xR} {M : xM} {R : Room} {Q : xK} {n : Nat} {h : xH} {pc : Nat} {lv : List (Nat × Value)} {rest : List Value} {cells slots : Nat} {idx i : Nat} {tx : String} (d : decode M.2.1 pc = .ok (.ldc idx, 2)) (k : Nat) (hq : x_Sr[k]? = some (M.1.cls, idx, tx, 2000000 + i)) (kk : x_W E M R Q n h (pc + 2) lv (.ref (2000000 + i) :: rest) cells slots) : x_W E M R Q n h pc lv rest cells slots := by
  intro p e s m args below meth c H locs ls C hP hS hl hz
  obtain ⟨hx, hb, hml, hown, hr, hlk, hnm, htb, hT, hK, hL⟩ := id C
  obtain ⟨z1, z2, z3, z4, z5, z6, z7, z8, z9, z10, z11, z12, z13⟩ := hT.2.2.2
  have k2 := kk p e s m args below meth c H locs ls C hP hS hl hz
  change W p (x_l E) e R s m args below meth c H locs cells slots (x_Q E Q below s) (F0 m (pc + 2) ls (.ref (x_r E (2000000 + i)) :: rest.map (x_v E))) at k2
  rw [x_rhi E (by omega)] at k2
  exact va_ldcS hx hb hown (hT.2.2.1 _ (List.mem_of_getElem? hq)) d k2
theorem x_ldc2 {E : xR} {M : xM} {R : Room} {Q : xK} {n : Nat} {h : xH} {pc : Nat} {lv : List (Nat × Value)} {rest : List Value} {cells slots : Nat} {idx : Nat} {v : Int64} (d : decode M.2.1 pc = .ok (.ldc2_w idx, 3)) (hw : Cond.constantLong M.1.cls idx v ∈ x_Tw) (kk : x_W E M R Q n h (pc + 3) lv (.long v :: rest) cells slots) : x_W E M R Q n h pc lv rest cells slots := by
  intro p e s m args below meth c H locs ls C hP hS hl hz
  obtain ⟨hx, hb, hml, hown, hr, hlk, hnm, htb, hT, hK, hL⟩ := id C
  obtain ⟨z1, z2, z3, z4, z5, z6, z7, z8, z9, z10, z11, z12, z13⟩ := hT.2.2.2
  exact lv_ldc2 hx hb hown (x_hts hT _ hw) d (kk p e s m args below meth c H locs ls C hP hS hl hz)
/-- two constants of one enum -/
def x_En (b N : Nat) : Prop := (b = 1000000 ∧ N = 12) ∨ (b = 1100000 ∧ N = 24)
theorem x_acmp_eq {E : xR} {M : xM} {R : Room} {Q : xK} {n : Nat} {h : xH} {pc : Nat} {lv : List (Nat × Value)} {rest : List Value} {cells slots : Nat} {off : Int} {i j b N : Nat} (tgt : Nat) (d : decode M.2.1 pc = .ok (.if_acmp .eq off, 3)) (ht : (pc : Int) + off = (tgt : Int)) (hb : x_En b N) (hi : i < N) (hj : j < N) (kt : i = j → x_W E M R Q n h tgt lv rest cells slots) (kf : ¬ i = j → x_W E M R Q n h (pc + 3) lv rest cells slots) : x_W E M R Q n h pc lv (.ref (b + j) :: .ref (b + i) :: rest) cells slots := by
  intro p e s m args below meth c H locs ls C hP hS hl hz
  obtain ⟨hx, hb0, hml, hown, hr, hlk, hnm, htb, hT, hK, hL⟩ := id C
  obtain ⟨z1, z2, z3, z4, z5, z6, z7, z8, z9, z10, z11, z12, z13⟩ := hT.2.2.2
  have hsg : x_sg E (b + i) = x_sg E (b + j) → i = j := by
    rcases hb with ⟨rfl, rfl⟩ | ⟨rfl, rfl⟩
    · exact z6.2 i j hi hj
    · exact z7.2 i j hi hj
  have hle : 1000000 ≤ b := by rcases hb with ⟨rfl, -⟩ | ⟨rfl, -⟩ <;> decide
  show W p (x_l E) e R s m args below meth c H locs cells slots (x_Q E Q below s) (F0 m pc ls (.ref (x_r E (b + j)) :: .ref (x_r E (b + i)) :: rest.map (x_v E)))
  rw [x_rhi E (by omega), x_rhi E (by omega)]
  exact lv_acmp_eq (rx := some (x_sg E (b + i))) (ry := some (x_sg E (b + j))) hx hb0 d ht (fun z => kt (hsg (Option.some.inj z)) p e s m args below meth c H locs ls C hP hS hl hz) (fun z => kf (fun q => z (by rw [q])) p e s m args below meth c H locs ls C hP hS hl hz)
theorem x_acmp_ne {E : xR} {M : xM} {R : Room} {Q : xK} {n : Nat} {h : xH} {pc : Nat} {lv : List (Nat × Value)} {rest : List Value} {cells slots : Nat} {off : Int} {i j b N : Nat} (tgt : Nat) (d : decode M.2.1 pc = .ok (.if_acmp .ne off, 3)) (ht : (pc : Int) + off = (tgt : Int)) (hb : x_En b N) (hi : i < N) (hj : j < N) (kt : ¬ i = j → x_W E M R Q n h tgt lv rest cells slots) (kf : i = j → x_W E M R Q n h (pc + 3) lv rest cells slots) : x_W E M R Q n h pc lv (.ref (b + j) :: .ref (b + i) :: rest) cells slots := by
  intro p e s m args below meth c H locs ls C hP hS hl hz
  obtain ⟨hx, hb0, hml, hown, hr, hlk, hnm, htb, hT, hK, hL⟩ := id C
  obtain ⟨z1, z2, z3, z4, z5, z6, z7, z8, z9, z10, z11, z12, z13⟩ := hT.2.2.2
  have hsg : x_sg E (b + i) = x_sg E (b + j) → i = j := by
    rcases hb with ⟨rfl, rfl⟩ | ⟨rfl, rfl⟩
    · exact z6.2 i j hi hj
    · exact z7.2 i j hi hj
  have hle : 1000000 ≤ b := by rcases hb with ⟨rfl, -⟩ | ⟨rfl, -⟩ <;> decide
  show W p (x_l E) e R s m args below meth c H locs cells slots (x_Q E Q below s) (F0 m pc ls (.ref (x_r E (b + j)) :: .ref (x_r E (b + i)) :: rest.map (x_v E)))
  rw [x_rhi E (by omega), x_rhi E (by omega)]
  exact lv_acmp_ne (rx := some (x_sg E (b + i))) (ry := some (x_sg E (b + j))) hx hb0 d ht (fun z => kt (fun q => z (by rw [q])) p e s m args below meth c H locs ls C hP hS hl hz) (fun z => kf (hsg (Option.some.inj z)) p e s m args below meth c H locs ls C hP hS hl hz)
/-- switches -/
theorem x_lsw {E : xR} {M : xM} {R : Room} {Q : xK} {n : Nat} {h : xH} {pc : Nat} {lv : List (Nat × Value)} {rest : List Value} {cells slots : Nat} {dflt : Int} {ps : Array (Int × Int)} {len : Nat} {x : Int32} {off : Int} (tgt : Nat) (d : decode M.2.1 pc = .ok (.lookupswitch dflt ps, len)) (hp : (ps.toList.zip (ps.toList.drop 1)).all (fun (a, next) => a.1 < next.1) = true) (ho : Op.lookupswitch.offset ps.toList dflt x.toInt = off) (ht : (pc : Int) + off = (tgt : Int)) (kk : x_W E M R Q n h tgt lv rest cells slots) : x_W E M R Q n h pc lv (.int x :: rest) cells slots := by
  intro p e s m args below meth c H locs ls C hP hS hl hz
  obtain ⟨hx, hb, hml, hown, hr, hlk, hnm, htb, hT, hK, hL⟩ := id C
  obtain ⟨z1, z2, z3, z4, z5, z6, z7, z8, z9, z10, z11, z12, z13⟩ := hT.2.2.2
  exact lv_lookup hx hb d hp ho ht (kk p e s m args below meth c H locs ls C hP hS hl hz)
theorem x_tabOut {E : xR} {M : xM} {R : Room} {Q : xK} {n : Nat} {h : xH} {pc : Nat} {lv : List (Nat × Value)} {rest : List Value} {cells slots : Nat} {dflt lo hi : Int} {offs : Array Int} {len : Nat} {x : Int32} (tgt : Nat) (d : decode M.2.1 pc = .ok (.tableswitch dflt lo hi offs, len)) (hq : x.toInt < lo ∨ hi < x.toInt) (ht : (pc : Int) + dflt = (tgt : Int)) (kk : x_W E M R Q n h tgt lv rest cells slots) : x_W E M R Q n h pc lv (.int x :: rest) cells slots := by
  intro p e s m args below meth c H locs ls C hP hS hl hz
  obtain ⟨hx, hb, hml, hown, hr, hlk, hnm, htb, hT, hK, hL⟩ := id C
  obtain ⟨z1, z2, z3, z4, z5, z6, z7, z8, z9, z10, z11, z12, z13⟩ := hT.2.2.2
  exact lv_tableOut hx hb d hq ht (kk p e s m args below meth c H locs ls C hP hS hl hz)
theorem x_tabIn {E : xR} {M : xM} {R : Room} {Q : xK} {n : Nat} {h : xH} {pc : Nat} {lv : List (Nat × Value)} {rest : List Value} {cells slots : Nat} {dflt lo hi : Int} {offs : Array Int} {len : Nat} {x : Int32} {off : Int} (tgt : Nat) (d : decode M.2.1 pc = .ok (.tableswitch dflt lo hi offs, len)) (h1 : ¬ x.toInt < lo) (h2 : ¬ hi < x.toInt) (ho : offs[(x.toInt - lo).toNat]? = some off) (ht : (pc : Int) + off = (tgt : Int)) (kk : x_W E M R Q n h tgt lv rest cells slots) : x_W E M R Q n h pc lv (.int x :: rest) cells slots := by
  intro p e s m args below meth c H locs ls C hP hS hl hz
  obtain ⟨hx, hb, hml, hown, hr, hlk, hnm, htb, hT, hK, hL⟩ := id C
  obtain ⟨z1, z2, z3, z4, z5, z6, z7, z8, z9, z10, z11, z12, z13⟩ := hT.2.2.2
  exact lv_tableIn hx hb d h1 h2 ho ht (kk p e s m args below meth c H locs ls C hP hS hl hz)
/-- a call on a String constant -/
theorem x_recvS {E : xR} {s : State} {H : Heap} {locs : List Loc} {i : Nat} (hT : x_T E s) (hS : va_S (x_A E) s.heap H locs) (hi : i < 33) : ∃ cell : Cell, H[x_r E (2000000 + i)]? = some cell ∧ cell.vm.isStatics = false ∧ s.vm.findClass "java/lang/String" = some cell.cls := by
  rw [x_rhi E (by omega)]
  exact vk_recv (adK := fun i => x_sg E (2000000 + i)) hT.2.2.2.2.2.2.2.1 hi hS
theorem x_callT0Y {E : xR} {M : xM} {R : Room} {Q : xK} {n : Nat} {h : xH} {pc : Nat} {lv : List (Nat × Value)} {rest : List Value} {cells slots : Nat} {idx i : Nat} {M' : xM} {d0 kc ks : Nat} {v : Option Value} {h1 : xH} (d : decode M.2.1 pc = .ok (.invokevirtual idx, 3)) (hk : x_CV M.1.cls idx M' 0) (hcn : M'.1.cls = "java/lang/String") (hi : i < 33) (hM : x_Mt E M' d0 kc ks [.ref (2000000 + i)] n h (x_Y v n h1)) (hfr : d0 + 1 ≤ R.frames) (hlo : 8 + (M'.2.2.1 + 11) + 64 * d0 ≤ R.locals) (hcl : cells + kc ≤ R.cells) (hsl : slots + ks ≤ R.slots) (hrs : (rest.map fun v => v.category).sum ≤ 8) (ho : M.2.2.2.2.all (fun t => !(decide (t.1 ≤ pc) && decide (pc < t.2.1))) = true) (kr : x_W E M R Q n h1 (pc + 3) lv (v.toList ++ rest) cells slots) : x_W E M R Q n h pc lv (.ref (2000000 + i) :: rest) cells slots :=
  x_call (av := [.ref (2000000 + i)]) (rest := rest) d (x_ivV (av := []) (C := M'.1.cls) d hk.1 hk.2.1 hk.2.2.2.1 hk.2.2.2.2.1 (fun s H locs hT _ _ hS => by rw [hcn]; exact x_recvS hT hS hi) hk.2.2.2.2.2) hk.2.1 hk.2.2.1 hM hfr hlo hcl hsl hrs ho x_Y_g (x_Y_r kr) x_Y_t
theorem x_callT1Y {E : xR} {M : xM} {R : Room} {Q : xK} {n : Nat} {h : xH} {pc : Nat} {lv : List (Nat × Value)} {rest : List Value} {cells slots : Nat} {idx i : Nat} {M' : xM} {d0 kc ks : Nat} {a1 : Value} {v : Option Value} {h1 : xH} (d : decode M.2.1 pc = .ok (.invokevirtual idx, 3)) (hk : x_CV M.1.cls idx M' 1) (hcn : M'.1.cls = "java/lang/String") (hi : i < 33) (hM : x_Mt E M' d0 kc ks [.ref (2000000 + i), a1] n h (x_Y v n h1)) (hfr : d0 + 1 ≤ R.frames) (hlo : 8 + (M'.2.2.1 + 11) + 64 * d0 ≤ R.locals) (hcl : cells + kc ≤ R.cells) (hsl : slots + ks ≤ R.slots) (hrs : (rest.map fun v => v.category).sum ≤ 8) (ho : M.2.2.2.2.all (fun t => !(decide (t.1 ≤ pc) && decide (pc < t.2.1))) = true) (kr : x_W E M R Q n h1 (pc + 3) lv (v.toList ++ rest) cells slots) : x_W E M R Q n h pc lv (a1 :: .ref (2000000 + i) :: rest) cells slots :=
  x_call (av := [.ref (2000000 + i), a1]) (rest := rest) d (x_ivV (av := [a1]) (C := M'.1.cls) d hk.1 hk.2.1 hk.2.2.2.1 hk.2.2.2.2.1 (fun s H locs hT _ _ hS => by rw [hcn]; exact x_recvS hT hS hi) hk.2.2.2.2.2) hk.2.1 hk.2.2.1 hM hfr hlo hcl hsl hrs ho x_Y_g (x_Y_r kr) x_Y_t
theorem x_callT2Y {E : xR} {M : xM} {R : Room} {Q : xK} {n : Nat} {h : xH} {pc : Nat} {lv : List (Nat × Value)} {rest : List Value} {cells slots : Nat} {idx i : Nat} {M' : xM} {d0 kc ks : Nat} {a1 a2 : Value} {v : Option Value} {h1 : xH} (d : decode M.2.1 pc = .ok (.invokevirtual idx, 3)) (hk : x_CV M.1.cls idx M' 2) (hcn : M'.1.cls = "java/lang/String") (hi : i < 33) (hM : x_Mt E M' d0 kc ks [.ref (2000000 + i), a1, a2] n h (x_Y v n h1)) (hfr : d0 + 1 ≤ R.frames) (hlo : 8 + (M'.2.2.1 + 11) + 64 * d0 ≤ R.locals) (hcl : cells + kc ≤ R.cells) (hsl : slots + ks ≤ R.slots) (hrs : (rest.map fun v => v.category).sum ≤ 8) (ho : M.2.2.2.2.all (fun t => !(decide (t.1 ≤ pc) && decide (pc < t.2.1))) = true) (kr : x_W E M R Q n h1 (pc + 3) lv (v.toList ++ rest) cells slots) : x_W E M R Q n h pc lv (a2 :: a1 :: .ref (2000000 + i) :: rest) cells slots :=
  x_call (av := [.ref (2000000 + i), a1, a2]) (rest := rest) d (x_ivV (av := [a1, a2]) (C := M'.1.cls) d hk.1 hk.2.1 hk.2.2.2.1 hk.2.2.2.2.1 (fun s H locs hT _ _ hS => by rw [hcn]; exact x_recvS hT hS hi) hk.2.2.2.2.2) hk.2.1 hk.2.2.1 hM hfr hlo hcl hsl hrs ho x_Y_g (x_Y_r kr) x_Y_t
theorem s_OP_117 : Cond.fieldLink "TermReader$Operator" 117 "TermReader$Sign" "COMMA" "LTermReader$Sign;" ∈ x_Tw := x_mem 602 (by decide +kernel) (by decide +kernel)
theorem s_OP_15 : Cond.fieldLink "TermReader$Operator" 15 "TermReader$Operator" "AND" "LTermReader$Operator;" ∈ x_Tw := x_mem 603 (by decide +kernel) (by decide +kernel)
theorem s_OP_126 : Cond.fieldLink "TermReader$Operator" 126 "TermReader$Sign" "NAME" "LTermReader$Sign;" ∈ x_Tw := x_mem 608 (by decide +kernel) (by decide +kernel)
theorem s_OP_75 : Cond.fieldLink "TermReader$Operator" 75 "TermReader$Operator" "NO_OPERATOR" "LTermReader$Operator;" ∈ x_Tw := x_mem 609 (by decide +kernel) (by decide +kernel)
theorem s_OP_129 : Cond.fieldLink "TermReader$Operator" 129 "TermReader$Operator" "ALL" "[LTermReader$Operator;" ∈ x_Tw := x_mem 611 (by decide +kernel) (by decide +kernel)
theorem s_OP_105 : x_Fc "TermReader$Operator" 105 "TermReader$Operator" "left" "I" := Or.inl (x_mem 1315 (by decide +kernel) (by decide +kernel))
theorem s_OP_97 : x_Fc "TermReader$Operator" 97 "TermReader$Operator" "text" "Ljava/lang/String;" := Or.inl (x_mem 1316 (by decide +kernel) (by decide +kernel))
theorem s_PA_46 : Cond.fieldLink "TermReader$Parser" 46 "TermReader$Sign" "END" "LTermReader$Sign;" ∈ x_Tw := x_mem 714 (by decide +kernel) (by decide +kernel)
theorem s_PA_59 : Cond.fieldLink "TermReader$Parser" 59 "TermReader$Sign" "NOTHING" "LTermReader$Sign;" ∈ x_Tw := x_mem 715 (by decide +kernel) (by decide +kernel)
theorem s_PA_75 : Cond.fieldLink "TermReader$Parser" 75 "TermReader$Sign" "OPEN" "LTermReader$Sign;" ∈ x_Tw := x_mem 584 (by decide +kernel) (by decide +kernel)
theorem s_PA_86 : Cond.fieldLink "TermReader$Parser" 86 "TermReader$Sign" "OPEN_LIST" "LTermReader$Sign;" ∈ x_Tw := x_mem 655 (by decide +kernel) (by decide +kernel)
theorem s_PA_99 : Cond.fieldLink "TermReader$Parser" 99 "TermReader$Sign" "NAME" "LTermReader$Sign;" ∈ x_Tw := x_mem 673 (by decide +kernel) (by decide +kernel)
theorem s_PA_118 : x_Fc "TermReader$Parser" 118 "TermReader$Operator" "rank" "I" := Or.inr ⟨"TermReader", x_memN 1317 (by decide +kernel) (by decide +kernel)⟩
theorem s_PA_124 : x_Fc "TermReader$Parser" 124 "TermReader$Operator" "right" "I" := Or.inr ⟨"TermReader", x_memN 1319 (by decide +kernel) (by decide +kernel)⟩
theorem s_PA_134 : x_Fc "TermReader$Parser" 134 "TermReader$Operator" "left" "I" := Or.inr ⟨"TermReader", x_memN 1318 (by decide +kernel) (by decide +kernel)⟩
theorem s_PA_143 : Cond.fieldLink "TermReader$Parser" 143 "TermReader$Sign" "CLOSE" "LTermReader$Sign;" ∈ x_Tw := x_mem 590 (by decide +kernel) (by decide +kernel)
theorem s_PA_152 : Cond.fieldLink "TermReader$Parser" 152 "TermReader$Sign" "COMMA" "LTermReader$Sign;" ∈ x_Tw := x_mem 660 (by decide +kernel) (by decide +kernel)
theorem s_PA_159 : Cond.fieldLink "TermReader$Parser" 159 "TermReader$Sign" "BAR" "LTermReader$Sign;" ∈ x_Tw := x_mem 661 (by decide +kernel) (by decide +kernel)
theorem s_PA_162 : Cond.fieldLink "TermReader$Parser" 162 "TermReader$Sign" "CLOSE_LIST" "LTermReader$Sign;" ∈ x_Tw := x_mem 662 (by decide +kernel) (by decide +kernel)
theorem s_PA_177 : Cond.fieldLink "TermReader$Parser" 177 "TermReader$Sign" "VARIABLE" "LTermReader$Sign;" ∈ x_Tw := x_mem 684 (by decide +kernel) (by decide +kernel)
theorem s_PA_183 : Cond.fieldLink "TermReader$Parser" 183 "TermReader$Sign" "INTEGER" "LTermReader$Sign;" ∈ x_Tw := x_mem 698 (by decide +kernel) (by decide +kernel)
theorem s_SG_15 : Cond.fieldLink "TermReader$Signs" 15 "TermReader$Sign" "NOTHING" "LTermReader$Sign;" ∈ x_Tw := x_mem 111 (by decide +kernel) (by decide +kernel)
theorem s_SG_70 : Cond.fieldLink "TermReader$Signs" 70 "TermReader$Sign" "NAME" "LTermReader$Sign;" ∈ x_Tw := x_mem 450 (by decide +kernel) (by decide +kernel)
theorem s_SG_80 : Cond.fieldLink "TermReader$Signs" 80 "TermReader$Sign" "VARIABLE" "LTermReader$Sign;" ∈ x_Tw := x_mem 462 (by decide +kernel) (by decide +kernel)
theorem s_SG_132 : Cond.fieldLink "TermReader$Signs" 132 "TermReader$Operator" "NO_OPERATOR" "LTermReader$Operator;" ∈ x_Tw := x_mem 712 (by decide +kernel) (by decide +kernel)
theorem s_SG_139 : Cond.fieldLink "TermReader$Signs" 139 "TermReader$Sign" "INTEGER" "LTermReader$Sign;" ∈ x_Tw := x_mem 444 (by decide +kernel) (by decide +kernel)
theorem s_SG_142 : Cond.fieldLink "TermReader$Signs" 142 "TermReader$Sign" "OPEN" "LTermReader$Sign;" ∈ x_Tw := x_mem 565 (by decide +kernel) (by decide +kernel)
theorem s_SG_145 : Cond.fieldLink "TermReader$Signs" 145 "TermReader$Sign" "OPEN_LIST" "LTermReader$Sign;" ∈ x_Tw := x_mem 569 (by decide +kernel) (by decide +kernel)
theorem s_SG_151 : Cond.constantLong "TermReader$Signs" 151 9007199254740991 ∈ x_Tw := x_mem 421 (by decide +kernel) (by decide +kernel)
theorem s_SG_153 : Cond.constantLong "TermReader$Signs" 153 10 ∈ x_Tw := x_mem 422 (by decide +kernel) (by decide +kernel)
theorem s_SG_155 : Cond.constantLong "TermReader$Signs" 155 48 ∈ x_Tw := x_mem 423 (by decide +kernel) (by decide +kernel)
theorem s_SG_157 : Cond.fieldLink "TermReader$Signs" 157 "TermReader$Sign" "END" "LTermReader$Sign;" ∈ x_Tw := x_mem 556 (by decide +kernel) (by decide +kernel)
theorem s_SG_164 : Cond.fieldLink "TermReader$Signs" 164 "TermReader$Sign" "CLOSE" "LTermReader$Sign;" ∈ x_Tw := x_mem 567 (by decide +kernel) (by decide +kernel)
theorem s_SG_167 : Cond.fieldLink "TermReader$Signs" 167 "TermReader$Sign" "CLOSE_LIST" "LTermReader$Sign;" ∈ x_Tw := x_mem 571 (by decide +kernel) (by decide +kernel)
theorem s_SG_170 : Cond.fieldLink "TermReader$Signs" 170 "TermReader$Sign" "BRACE" "LTermReader$Sign;" ∈ x_Tw := x_mem 573 (by decide +kernel) (by decide +kernel)
theorem s_SG_173 : Cond.fieldLink "TermReader$Signs" 173 "TermReader$Sign" "COMMA" "LTermReader$Sign;" ∈ x_Tw := x_mem 575 (by decide +kernel) (by decide +kernel)
theorem s_SG_176 : Cond.fieldLink "TermReader$Signs" 176 "TermReader$Sign" "BAR" "LTermReader$Sign;" ∈ x_Tw := x_mem 577 (by decide +kernel) (by decide +kernel)
theorem s_PP_37 : Cond.constantLong "TermReaderModel$Paper" 37 9 ∈ x_Tw := x_mem 1257 (by decide +kernel) (by decide +kernel)
theorem s_PP_39 : Cond.constantLong "TermReaderModel$Paper" 39 10 ∈ x_Tw := x_mem 1258 (by decide +kernel) (by decide +kernel)
theorem s_PP_41 : Cond.constantLong "TermReaderModel$Paper" 41 48 ∈ x_Tw := x_mem 1259 (by decide +kernel) (by decide +kernel)
theorem s_RD_178 : Cond.constantLong "TermReaderModel$Reader" 178 9007199254740992 ∈ x_Tw := x_mem 1142 (by decide +kernel) (by decide +kernel)
theorem s_RD_180 : Cond.constantLong "TermReaderModel$Reader" 180 10 ∈ x_Tw := x_mem 1143 (by decide +kernel) (by decide +kernel)
theorem s_RD_182 : Cond.constantLong "TermReaderModel$Reader" 182 48 ∈ x_Tw := x_mem 1144 (by decide +kernel) (by decide +kernel)
