theorem x_mmax {E : xR} {M : xM} {R : Room} {Q : xK} {n : Nat} {h : xH} {pc : Nat} {lv : List (Nat × Value)} {rest : List Value} {cells slots idx : Nat} {x y : Int32} (d : decode M.2.1 pc = .ok (.invokestatic idx, 3)) (hlink : Cond.methodLink M.1.cls idx M_MA_max.1 ∈ x_Tw) (hk : x_CS M.1.cls idx M_MA_max 2) (hfr : 1 ≤ R.frames) (hlo : 8 + 13 ≤ R.locals) (hcl : cells ≤ R.cells) (hsl : slots ≤ R.slots) (hrs : (rest.map fun v => v.category).sum ≤ 8) (kk : x_W E M R Q n h (pc + 3) lv (.int (if x < y then y else x) :: rest) cells slots) : x_W E M R Q n h pc lv (.int y :: .int x :: rest) cells slots := by
  intro p e s m args below meth c H locs ls C hP hS hl hz
  obtain ⟨hx, hb, hml, hown, hr, hlk, hnm, htb, hT, hK, hL⟩ := id C
  have hrs2 : ((rest.map (x_v E)).map fun v => v.category).sum ≤ 8 := by
    have : ((rest.map (x_v E)).map fun v => v.category) = rest.map fun v => v.category := by
      rw [List.map_map]
      exact List.map_congr_left fun v _ => x_cat E v
    rw [this]
    exact hrs
  exact va_mmax hx hb (hml.trans hl.1.symm) hown (x_hts hT _ hlink) (x_hts hT _ hk.2.2.2.1) (x_hts hT _ hk.2.2.1) (x_hts hT _ hk.2.1) hfr (by omega) hcl hsl d (kk p e s m args below meth c H locs ls C hP hS hl hz)
theorem x_mmin {E : xR} {M : xM} {R : Room} {Q : xK} {n : Nat} {h : xH} {pc : Nat} {lv : List (Nat × Value)} {rest : List Value} {cells slots idx : Nat} {x y : Int32} (d : decode M.2.1 pc = .ok (.invokestatic idx, 3)) (hlink : Cond.methodLink M.1.cls idx M_MA_min.1 ∈ x_Tw) (hk : x_CS M.1.cls idx M_MA_min 2) (hfr : 1 ≤ R.frames) (hlo : 8 + 13 ≤ R.locals) (hcl : cells ≤ R.cells) (hsl : slots ≤ R.slots) (hrs : (rest.map fun v => v.category).sum ≤ 8) (kk : x_W E M R Q n h (pc + 3) lv (.int (if y < x then y else x) :: rest) cells slots) : x_W E M R Q n h pc lv (.int y :: .int x :: rest) cells slots := by
  intro p e s m args below meth c H locs ls C hP hS hl hz
  obtain ⟨hx, hb, hml, hown, hr, hlk, hnm, htb, hT, hK, hL⟩ := id C
  have hrs2 : ((rest.map (x_v E)).map fun v => v.category).sum ≤ 8 := by
    have : ((rest.map (x_v E)).map fun v => v.category) = rest.map fun v => v.category := by
      rw [List.map_map]
      exact List.map_congr_left fun v _ => x_cat E v
    rw [this]
    exact hrs
  exact va_mmin hx hb (hml.trans hl.1.symm) hown (x_hts hT _ hlink) (x_hts hT _ hk.2.2.2.1) (x_hts hT _ hk.2.2.1) (x_hts hT _ hk.2.1) hfr (by omega) hcl hsl d (kk p e s m args below meth c H locs ls C hP hS hl hz)
theorem d_ST_coder_0 : decode M_ST_coder.2.1 0 = .ok (.getstatic 38, 3) := by decide +kernel
theorem d_ST_coder_3 : decode M_ST_coder.2.1 3 = .ok (.ifCond .eq 10, 3) := by decide +kernel
theorem d_ST_coder_6 : decode M_ST_coder.2.1 6 = .ok (.aload_n 0, 1) := by decide +kernel
theorem d_ST_coder_7 : decode M_ST_coder.2.1 7 = .ok (.getfield 15, 3) := by decide +kernel
theorem d_ST_coder_10 : decode M_ST_coder.2.1 10 = .ok (.goto 4, 3) := by decide +kernel
theorem d_ST_coder_14 : decode M_ST_coder.2.1 14 = .ok (.ireturn, 1) := by decide +kernel
set_option maxRecDepth 20000 in
theorem w_ST_coder {E : xR} {n : Nat} {h : xH} {i : Nat} (hi : i < 33) : x_Mt E M_ST_coder 0 0 0 [.ref (2000000 + i)] n h (x_Y (some (.int 0)) n h) := by
  refine x_Mt.of (by decide) (Nat.le_of_ble_eq_true rfl) ?_
  show x_W E M_ST_coder _ _ n h 0 [(0, .ref (2000000 + i))] [] 0 0
  refine x_gCMP d_ST_coder_0 (x_mem 480 (by decide +kernel) (by decide +kernel)) ?_
  refine x_if_eq 13 d_ST_coder_3 (by decide) (fun z => absurd z (by decide)) (fun _ => ?_)
  refine x_aload_n d_ST_coder_6 rfl rfl ?_
  refine x_gSTc d_ST_coder_7 hi (Or.inl (x_mem 1313 (by decide +kernel) (by decide +kernel))) ?_
  refine x_goto 14 d_ST_coder_10 (by decide) ?_
  exact x_ireturn d_ST_coder_14 rfl rfl ⟨rfl, rfl, fun _ _ => rfl, rfl, rfl⟩
theorem d_ST_isLatin1_0 : decode M_ST_isLatin1.2.1 0 = .ok (.getstatic 38, 3) := by decide +kernel
theorem d_ST_isLatin1_3 : decode M_ST_isLatin1.2.1 3 = .ok (.ifCond .eq 14, 3) := by decide +kernel
theorem d_ST_isLatin1_6 : decode M_ST_isLatin1.2.1 6 = .ok (.aload_n 0, 1) := by decide +kernel
theorem d_ST_isLatin1_7 : decode M_ST_isLatin1.2.1 7 = .ok (.getfield 15, 3) := by decide +kernel
theorem d_ST_isLatin1_10 : decode M_ST_isLatin1.2.1 10 = .ok (.ifCond .ne 7, 3) := by decide +kernel
theorem d_ST_isLatin1_13 : decode M_ST_isLatin1.2.1 13 = .ok (.iconst 1, 1) := by decide +kernel
theorem d_ST_isLatin1_14 : decode M_ST_isLatin1.2.1 14 = .ok (.goto 4, 3) := by decide +kernel
theorem d_ST_isLatin1_18 : decode M_ST_isLatin1.2.1 18 = .ok (.ireturn, 1) := by decide +kernel
set_option maxRecDepth 20000 in
theorem w_ST_isLatin1 {E : xR} {n : Nat} {h : xH} {i : Nat} (hi : i < 33) : x_Mt E M_ST_isLatin1 0 0 0 [.ref (2000000 + i)] n h (x_Y (some (.int 1)) n h) := by
  refine x_Mt.of (by decide) (Nat.le_of_ble_eq_true rfl) ?_
  show x_W E M_ST_isLatin1 _ _ n h 0 [(0, .ref (2000000 + i))] [] 0 0
  refine x_gCMP d_ST_isLatin1_0 (x_mem 480 (by decide +kernel) (by decide +kernel)) ?_
  refine x_if_eq 17 d_ST_isLatin1_3 (by decide) (fun z => absurd z (by decide)) (fun _ => ?_)
  refine x_aload_n d_ST_isLatin1_6 rfl rfl ?_
  refine x_gSTc d_ST_isLatin1_7 hi (Or.inl (x_mem 1313 (by decide +kernel) (by decide +kernel))) ?_
  refine x_if_ne 17 d_ST_isLatin1_10 (by decide) (fun z => absurd (by decide) z) (fun _ => ?_)
  refine x_iconst 1 d_ST_isLatin1_13 (by decide) ?_
  refine x_goto 18 d_ST_isLatin1_14 (by decide) ?_
  exact x_ireturn d_ST_isLatin1_18 rfl rfl ⟨rfl, rfl, fun _ _ => rfl, rfl, rfl⟩
theorem g_shr0 (x : Int32) : x >>> ((0 : Int32) &&& 31) = x := by
  show x >>> (0 : Int32) = x
  simp
theorem d_ST_length_0 : decode M_ST_length.2.1 0 = .ok (.aload_n 0, 1) := by decide +kernel
theorem d_ST_length_1 : decode M_ST_length.2.1 1 = .ok (.getfield 9, 3) := by decide +kernel
theorem d_ST_length_4 : decode M_ST_length.2.1 4 = .ok (.arraylength, 1) := by decide +kernel
theorem d_ST_length_5 : decode M_ST_length.2.1 5 = .ok (.aload_n 0, 1) := by decide +kernel
theorem d_ST_length_6 : decode M_ST_length.2.1 6 = .ok (.invokevirtual 335, 3) := by decide +kernel
theorem d_ST_length_9 : decode M_ST_length.2.1 9 = .ok (.ishr, 1) := by decide +kernel
theorem d_ST_length_10 : decode M_ST_length.2.1 10 = .ok (.ireturn, 1) := by decide +kernel
set_option maxRecDepth 20000 in
theorem w_ST_length {E : xR} {n : Nat} {h : xH} {i : Nat} (hi : i < 33) : x_Mt E M_ST_length 1 0 0 [.ref (2000000 + i)] n h (x_Y (some (.int (nI (x_lenS.getD i 0)))) n h) := by
  refine x_Mt.of (by decide) (Nat.le_of_ble_eq_true rfl) ?_
  show x_W E M_ST_length _ _ n h 0 [(0, .ref (2000000 + i))] [] 0 0
  refine x_aload_n d_ST_length_0 rfl rfl ?_
  refine x_gSTv d_ST_length_1 hi (Or.inl (x_mem 1314 (by decide +kernel) (by decide +kernel))) ?_
  refine x_lenSV d_ST_length_4 hi ?_
  refine x_aload_n d_ST_length_5 rfl rfl ?_
  refine x_callT0Y d_ST_length_6 k_ST_335 rfl hi (w_ST_coder hi) (Nat.le_of_ble_eq_true rfl) (Nat.le_of_ble_eq_true rfl) (Nat.le_of_ble_eq_true rfl) (Nat.le_of_ble_eq_true rfl) (Nat.le_of_ble_eq_true rfl) rfl ?_
  refine x_ishr d_ST_length_9 ?_
  refine x_topi _ (g_shr0 _) ?_
  exact x_ireturn d_ST_length_10 rfl rfl ⟨rfl, rfl, fun _ _ => rfl, rfl, rfl⟩
def M_PC_checkIndex : xM := (⟨"jdk/internal/util/Preconditions", "checkIndex", "(IILjava/util/function/BiFunction;)I"⟩, prog_27_method_11_code, 3, some .int, [])
theorem k_ST_1059 : x_CS "java/lang/String" 1059 M_PC_checkIndex 3 := ⟨Or.inl (x_mem 628 (by decide +kernel) (by decide +kernel)), (x_mem 630 (by decide +kernel) (by decide +kernel)), (x_mem 88 (by decide +kernel) (by decide +kernel)), (x_mem 629 (by decide +kernel) (by decide +kernel)), by decide, by decide, by decide +kernel⟩
/-- the formatter: null or some object -/
theorem x_gFMT {E : xR} {M : xM} {R : Room} {Q : xK} {n : Nat} {h : xH} {pc : Nat} {lv : List (Nat × Value)} {rest : List Value} {cells slots idx : Nat} (d : decode M.2.1 pc = .ok (.getstatic idx, 3)) (hw : Cond.fieldLink M.1.cls idx "jdk/internal/util/Preconditions" "SIOOBE_FORMATTER" "Ljava/util/function/BiFunction;" ∈ x_Tw) (kn : x_W E M R Q n h (pc + 3) lv (.null :: rest) cells slots) (kr : x_W E M R Q n h (pc + 3) lv (.ref 5000000 :: rest) cells slots) : x_W E M R Q n h pc lv rest cells slots := by
  intro p e s m args below meth c H locs ls C hP hS hl hz
  obtain ⟨hx, hb, hml, hown, hr, hlk, hnm, htb, hT, hK, hL⟩ := id C
  obtain ⟨z1, z2, z3, z4, z5, z6, z7, z8, z9, z10, z11, z12, z13⟩ := hT.2.2.2
  rcases z13 with z | z
  · exact va_gets hx hb z hS hown (x_hts hT _ hw) (fun _ z => z) d (kn p e s m args below meth c H locs ls C hP hS hl hz)
  · exact va_gets hx hb z hS hown (x_hts hT _ hw) (fun _ z => z) d (kr p e s m args below meth c H locs ls C hP hS hl hz)
theorem d_PC_checkIndex_0 : decode M_PC_checkIndex.2.1 0 = .ok (.iload_n 0, 1) := by decide +kernel
theorem d_PC_checkIndex_1 : decode M_PC_checkIndex.2.1 1 = .ok (.ifCond .lt 8, 3) := by decide +kernel
theorem d_PC_checkIndex_4 : decode M_PC_checkIndex.2.1 4 = .ok (.iload_n 0, 1) := by decide +kernel
theorem d_PC_checkIndex_5 : decode M_PC_checkIndex.2.1 5 = .ok (.iload_n 1, 1) := by decide +kernel
theorem d_PC_checkIndex_6 : decode M_PC_checkIndex.2.1 6 = .ok (.if_icmp .lt 10, 3) := by decide +kernel
theorem d_PC_checkIndex_16 : decode M_PC_checkIndex.2.1 16 = .ok (.iload_n 0, 1) := by decide +kernel
theorem d_PC_checkIndex_17 : decode M_PC_checkIndex.2.1 17 = .ok (.ireturn, 1) := by decide +kernel
set_option maxRecDepth 20000 in
theorem w_PC_checkIndex {E : xR} {n : Nat} {h : xH} {j N : Nat} {v : Value} (hv : v = .null ∨ v = .ref 5000000) (hj : j < N) (hN : N < 2 ^ 31) : x_Mt E M_PC_checkIndex 0 0 0 [.int (nI j), .int (nI N), v] n h (x_Y (some (.int (nI j))) n h) := by
  rcases hv with rfl | rfl
  all_goals
    refine x_Mt.of (by decide) (Nat.le_of_ble_eq_true rfl) ?_
  · show x_W E M_PC_checkIndex _ _ n h 0 [(0, .int (nI j)), (1, .int (nI N)), (2, .null)] [] 0 0
    refine x_iload_n d_PC_checkIndex_0 rfl rfl ?_
    refine x_if_lt 9 d_PC_checkIndex_1 (by decide) (fun z => absurd z (nI_pos (by omega))) (fun _ => ?_)
    refine x_iload_n d_PC_checkIndex_4 rfl rfl ?_
    refine x_iload_n d_PC_checkIndex_5 rfl rfl ?_
    refine x_icmp_lt 16 d_PC_checkIndex_6 (by decide) (fun _ => ?_) (fun z => absurd (nI_lt hj hN) z)
    refine x_iload_n d_PC_checkIndex_16 rfl rfl ?_
    exact x_ireturn d_PC_checkIndex_17 rfl rfl ⟨rfl, rfl, fun _ _ => rfl, rfl, rfl⟩
  · show x_W E M_PC_checkIndex _ _ n h 0 [(0, .int (nI j)), (1, .int (nI N)), (2, .ref 5000000)] [] 0 0
    refine x_iload_n d_PC_checkIndex_0 rfl rfl ?_
    refine x_if_lt 9 d_PC_checkIndex_1 (by decide) (fun z => absurd z (nI_pos (by omega))) (fun _ => ?_)
    refine x_iload_n d_PC_checkIndex_4 rfl rfl ?_
    refine x_iload_n d_PC_checkIndex_5 rfl rfl ?_
    refine x_icmp_lt 16 d_PC_checkIndex_6 (by decide) (fun _ => ?_) (fun z => absurd (nI_lt hj hN) z)
    refine x_iload_n d_PC_checkIndex_16 rfl rfl ?_
    exact x_ireturn d_PC_checkIndex_17 rfl rfl ⟨rfl, rfl, fun _ _ => rfl, rfl, rfl⟩
theorem d_ST_checkIndex_0 : decode M_ST_checkIndex.2.1 0 = .ok (.iload_n 0, 1) := by decide +kernel
theorem d_ST_checkIndex_1 : decode M_ST_checkIndex.2.1 1 = .ok (.iload_n 1, 1) := by decide +kernel
theorem d_ST_checkIndex_2 : decode M_ST_checkIndex.2.1 2 = .ok (.getstatic 1053, 3) := by decide +kernel
theorem d_ST_checkIndex_5 : decode M_ST_checkIndex.2.1 5 = .ok (.invokestatic 1059, 3) := by decide +kernel
theorem d_ST_checkIndex_8 : decode M_ST_checkIndex.2.1 8 = .ok (.pop, 1) := by decide +kernel
theorem d_ST_checkIndex_9 : decode M_ST_checkIndex.2.1 9 = .ok (.return_, 1) := by decide +kernel
set_option maxRecDepth 20000 in
theorem w_ST_checkIndex {E : xR} {n : Nat} {h : xH} {j N : Nat} (hj : j < N) (hN : N < 2 ^ 31) : x_Mt E M_ST_checkIndex 1 0 0 [.int (nI j), .int (nI N)] n h (x_Y none n h) := by
  refine x_Mt.of (by decide) (Nat.le_of_ble_eq_true rfl) ?_
  show x_W E M_ST_checkIndex _ _ n h 0 [(0, .int (nI j)), (1, .int (nI N))] [] 0 0
  have hv : ∀ v : Value, v = .null ∨ v = .ref 5000000 → x_W E M_ST_checkIndex (x_room 1 0 0) (x_Y none n h) n h 5 [(0, .int (nI j)), (1, .int (nI N))] [v, .int (nI N), .int (nI j)] 0 0 := by
    intro v hv
    refine x_callS3Y d_ST_checkIndex_5 k_ST_1059 (w_PC_checkIndex hv hj hN) (Nat.le_of_ble_eq_true rfl) (Nat.le_of_ble_eq_true rfl) (Nat.le_of_ble_eq_true rfl) (Nat.le_of_ble_eq_true rfl) (Nat.le_of_ble_eq_true rfl) rfl ?_
    refine x_pop d_ST_checkIndex_8 rfl ?_
    exact x_return d_ST_checkIndex_9 rfl ⟨rfl, rfl, fun _ _ => rfl, rfl, rfl⟩
  refine x_iload_n d_ST_checkIndex_0 rfl rfl ?_
  refine x_iload_n d_ST_checkIndex_1 rfl rfl ?_
  refine x_gFMT d_ST_checkIndex_2 (x_mem 521 (by decide +kernel) (by decide +kernel)) (hv _ (Or.inl rfl)) (hv _ (Or.inr rfl))
theorem g_sl : ∀ i, i < 33 → x_lenS.getD i 0 < 64 ∧ ∀ k, k < x_lenS.getD i 0 → ((((x_bytS.getD i []).getD k 0) &&& 255).toUInt32 % 65536).toInt32 = (x_bytS.getD i []).getD k 0 ∧ narrow .char (.int ((x_bytS.getD i []).getD k 0)) = .int ((x_bytS.getD i []).getD k 0) := by decide +kernel
theorem d_L1_charAt_0 : decode M_L1_charAt.2.1 0 = .ok (.iload_n 1, 1) := by decide +kernel
theorem d_L1_charAt_1 : decode M_L1_charAt.2.1 1 = .ok (.aload_n 0, 1) := by decide +kernel
theorem d_L1_charAt_2 : decode M_L1_charAt.2.1 2 = .ok (.arraylength, 1) := by decide +kernel
theorem d_L1_charAt_3 : decode M_L1_charAt.2.1 3 = .ok (.invokestatic 9, 3) := by decide +kernel
theorem d_L1_charAt_6 : decode M_L1_charAt.2.1 6 = .ok (.aload_n 0, 1) := by decide +kernel
theorem d_L1_charAt_7 : decode M_L1_charAt.2.1 7 = .ok (.iload_n 1, 1) := by decide +kernel
theorem d_L1_charAt_8 : decode M_L1_charAt.2.1 8 = .ok (.baload, 1) := by decide +kernel
theorem d_L1_charAt_9 : decode M_L1_charAt.2.1 9 = .ok (.sipush 255, 3) := by decide +kernel
theorem d_L1_charAt_12 : decode M_L1_charAt.2.1 12 = .ok (.iand, 1) := by decide +kernel
theorem d_L1_charAt_13 : decode M_L1_charAt.2.1 13 = .ok (.i2c, 1) := by decide +kernel
theorem d_L1_charAt_14 : decode M_L1_charAt.2.1 14 = .ok (.ireturn, 1) := by decide +kernel
set_option maxRecDepth 20000 in
theorem w_L1_charAt {E : xR} {n : Nat} {h : xH} {i : Nat} (hi : i < 33) {k : Nat} (hk : k < x_lenS.getD i 0) : x_Mt E M_L1_charAt 2 0 0 [.ref (3000000 + i), .int (nI k)] n h (x_Y (some (.int ((x_bytS.getD i []).getD k 0))) n h) := by
  have hl := (g_sl i hi).1
  have hg := (g_sl i hi).2 k hk
  refine x_Mt.of (by decide) (Nat.le_of_ble_eq_true rfl) ?_
  show x_W E M_L1_charAt _ _ n h 0 [(0, .ref (3000000 + i)), (1, .int (nI k))] [] 0 0
  refine x_iload_n d_L1_charAt_0 rfl rfl ?_
  refine x_aload_n d_L1_charAt_1 rfl rfl ?_
  refine x_lenSV d_L1_charAt_2 hi ?_
  refine x_callS2Y d_L1_charAt_3 k_L1_9 (w_ST_checkIndex hk (by omega)) (Nat.le_of_ble_eq_true rfl) (Nat.le_of_ble_eq_true rfl) (Nat.le_of_ble_eq_true rfl) (Nat.le_of_ble_eq_true rfl) (Nat.le_of_ble_eq_true rfl) rfl ?_
  refine x_aload_n d_L1_charAt_6 rfl rfl ?_
  refine x_iload_n d_L1_charAt_7 rfl rfl ?_
  refine x_bSV d_L1_charAt_8 hi (vp_in_nI hk (by omega)) ?_
  refine x_sipush 255 d_L1_charAt_9 (by decide) ?_
  refine x_iand d_L1_charAt_12 ?_
  refine x_i2c d_L1_charAt_13 ?_
  refine x_topi ((x_bytS.getD i []).getD k 0) (by rw [nI_clamp (by omega)]; exact hg.1) ?_
  exact x_ireturn d_L1_charAt_14 rfl hg.2 ⟨rfl, rfl, fun _ _ => rfl, rfl, rfl⟩
theorem d_ST_charAt_0 : decode M_ST_charAt.2.1 0 = .ok (.aload_n 0, 1) := by decide +kernel
theorem d_ST_charAt_1 : decode M_ST_charAt.2.1 1 = .ok (.invokevirtual 492, 3) := by decide +kernel
theorem d_ST_charAt_4 : decode M_ST_charAt.2.1 4 = .ok (.ifCond .eq 12, 3) := by decide +kernel
theorem d_ST_charAt_7 : decode M_ST_charAt.2.1 7 = .ok (.aload_n 0, 1) := by decide +kernel
theorem d_ST_charAt_8 : decode M_ST_charAt.2.1 8 = .ok (.getfield 9, 3) := by decide +kernel
theorem d_ST_charAt_11 : decode M_ST_charAt.2.1 11 = .ok (.iload_n 1, 1) := by decide +kernel
theorem d_ST_charAt_12 : decode M_ST_charAt.2.1 12 = .ok (.invokestatic 495, 3) := by decide +kernel
theorem d_ST_charAt_15 : decode M_ST_charAt.2.1 15 = .ok (.ireturn, 1) := by decide +kernel
set_option maxRecDepth 20000 in
theorem w_ST_charAt {E : xR} {n : Nat} {h : xH} {i : Nat} (hi : i < 33) {k : Nat} (hk : k < x_lenS.getD i 0) : x_Mt E M_ST_charAt 3 0 0 [.ref (2000000 + i), .int (nI k)] n h (x_Y (some (.int ((x_bytS.getD i []).getD k 0))) n h) := by
  refine x_Mt.of (by decide) (Nat.le_of_ble_eq_true rfl) ?_
  show x_W E M_ST_charAt _ _ n h 0 [(0, .ref (2000000 + i)), (1, .int (nI k))] [] 0 0
  refine x_aload_n d_ST_charAt_0 rfl rfl ?_
  refine x_callT0Y d_ST_charAt_1 k_ST_492 rfl hi (w_ST_isLatin1 hi) (Nat.le_of_ble_eq_true rfl) (Nat.le_of_ble_eq_true rfl) (Nat.le_of_ble_eq_true rfl) (Nat.le_of_ble_eq_true rfl) (Nat.le_of_ble_eq_true rfl) rfl ?_
  refine x_if_eq 16 d_ST_charAt_4 (by decide) (fun z => absurd z (by decide)) (fun _ => ?_)
  refine x_aload_n d_ST_charAt_7 rfl rfl ?_
  refine x_gSTv d_ST_charAt_8 hi (Or.inl (x_mem 1314 (by decide +kernel) (by decide +kernel))) ?_
  refine x_iload_n d_ST_charAt_11 rfl rfl ?_
  refine x_callS2Y d_ST_charAt_12 k_ST_495 (w_L1_charAt hi hk) (Nat.le_of_ble_eq_true rfl) (Nat.le_of_ble_eq_true rfl) (Nat.le_of_ble_eq_true rfl) (Nat.le_of_ble_eq_true rfl) (Nat.le_of_ble_eq_true rfl) rfl ?_
  exact x_ireturn d_ST_charAt_15 rfl ((g_sl i hi).2 k hk).2 ⟨rfl, rfl, fun _ _ => rfl, rfl, rfl⟩
/-- where c stands in a list, from place k on -/
def g_ixF (c : Int32) : List Int32 → Nat → Int32
  | [], _ => -1
  | b :: l, k => if b = c then nI k else g_ixF c l (k + 1)
def g_sy : List Int32 := [43, 45, 42, 47, 92, 94, 60, 62, 61, 126, 58, 46, 63, 64, 35, 38, 36]
theorem g_sy3 : x_bytS.getD 3 [] = g_sy := rfl
theorem g_ixE {c : Int32} {l : List Int32} {k : Nat} : ∀ (m : Nat), True := fun _ => trivial
theorem d_L1_indexOfChar_0 : decode M_L1_indexOfChar.2.1 0 = .ok (.iload_n 1, 1) := by decide +kernel
theorem d_L1_indexOfChar_1 : decode M_L1_indexOfChar.2.1 1 = .ok (.i2b, 1) := by decide +kernel
theorem d_L1_indexOfChar_2 : decode M_L1_indexOfChar.2.1 2 = .ok (.istore 4, 2) := by decide +kernel
theorem d_L1_indexOfChar_4 : decode M_L1_indexOfChar.2.1 4 = .ok (.iload_n 2, 1) := by decide +kernel
theorem d_L1_indexOfChar_5 : decode M_L1_indexOfChar.2.1 5 = .ok (.istore 5, 2) := by decide +kernel
theorem d_L1_indexOfChar_7 : decode M_L1_indexOfChar.2.1 7 = .ok (.iload 5, 2) := by decide +kernel
theorem d_L1_indexOfChar_9 : decode M_L1_indexOfChar.2.1 9 = .ok (.iload_n 3, 1) := by decide +kernel
theorem d_L1_indexOfChar_10 : decode M_L1_indexOfChar.2.1 10 = .ok (.if_icmp .ge 21, 3) := by decide +kernel
theorem d_L1_indexOfChar_13 : decode M_L1_indexOfChar.2.1 13 = .ok (.aload_n 0, 1) := by decide +kernel
theorem d_L1_indexOfChar_14 : decode M_L1_indexOfChar.2.1 14 = .ok (.iload 5, 2) := by decide +kernel
theorem d_L1_indexOfChar_16 : decode M_L1_indexOfChar.2.1 16 = .ok (.baload, 1) := by decide +kernel
theorem d_L1_indexOfChar_17 : decode M_L1_indexOfChar.2.1 17 = .ok (.iload 4, 2) := by decide +kernel
theorem d_L1_indexOfChar_19 : decode M_L1_indexOfChar.2.1 19 = .ok (.if_icmp .ne 6, 3) := by decide +kernel
theorem d_L1_indexOfChar_22 : decode M_L1_indexOfChar.2.1 22 = .ok (.iload 5, 2) := by decide +kernel
theorem d_L1_indexOfChar_24 : decode M_L1_indexOfChar.2.1 24 = .ok (.ireturn, 1) := by decide +kernel
theorem d_L1_indexOfChar_25 : decode M_L1_indexOfChar.2.1 25 = .ok (.iinc 5 1, 3) := by decide +kernel
theorem d_L1_indexOfChar_28 : decode M_L1_indexOfChar.2.1 28 = .ok (.goto (-21), 3) := by decide +kernel
theorem d_L1_indexOfChar_31 : decode M_L1_indexOfChar.2.1 31 = .ok (.iconst (-1), 1) := by decide +kernel
theorem d_L1_indexOfChar_32 : decode M_L1_indexOfChar.2.1 32 = .ok (.ireturn, 1) := by decide +kernel
set_option maxRecDepth 20000 in
theorem w_L1_indexOfChar {E : xR} {n : Nat} {h : xH} {c : Int32} : x_Mt E M_L1_indexOfChar 0 0 0 [.ref 3000003, .int c, .int (nI 0), .int (nI 17)] n h (x_Y (some (.int (g_ixF c.toInt8.toInt32 g_sy 0))) n h) := by
  refine x_Mt.of (by decide) (Nat.le_of_ble_eq_true rfl) ?_
  have hloop : ∀ m k, k + m = 17 → g_ixF c.toInt8.toInt32 (g_sy.drop k) k = g_ixF c.toInt8.toInt32 g_sy 0 → x_W E M_L1_indexOfChar (x_room 0 0 0) (x_Y (some (.int (g_ixF c.toInt8.toInt32 g_sy 0))) n h) n h 7 [(0, .ref 3000003), (1, .int c), (2, .int (nI 0)), (3, .int (nI 17)), (4, .int c.toInt8.toInt32), (5, .int (nI k))] [] 0 0 := by
    intro m
    induction m with
    | zero =>
      intro k hk hz
      obtain rfl : k = 17 := by omega
      refine x_iload d_L1_indexOfChar_7 rfl ?_
      refine x_iload_n d_L1_indexOfChar_9 rfl rfl ?_
      refine x_icmp_ge 31 d_L1_indexOfChar_10 (by decide) (fun _ => ?_) (fun z => absurd (show nI 17 ≤ nI 17 from nI_le (Nat.le_refl _) (by decide)) z)
      refine x_iconst (-1) d_L1_indexOfChar_31 (by decide) ?_
      refine x_topi _ hz ?_
      exact x_ireturn d_L1_indexOfChar_32 rfl rfl ⟨rfl, rfl, fun _ _ => rfl, rfl, rfl⟩
    | succ m ih =>
      intro k hk hz
      have hd : g_sy.drop k = g_sy.getD k 0 :: g_sy.drop (k + 1) := by
        rw [List.drop_eq_getElem_cons (show k < g_sy.length by show k < 17; omega)]
        rw [List.getD_eq_getElem?_getD, List.getElem?_eq_getElem (show k < g_sy.length by show k < 17; omega)]
        rfl
      rw [hd, g_ixF] at hz
      have hrec : ¬ (x_bytS.getD 3 []).getD (nI k).toNatClampNeg 0 = c.toInt8.toInt32 → x_W E M_L1_indexOfChar (x_room 0 0 0) (x_Y (some (.int (g_ixF c.toInt8.toInt32 g_sy 0))) n h) n h 7 [(0, .ref 3000003), (1, .int c), (2, .int (nI 0)), (3, .int (nI 17)), (4, .int c.toInt8.toInt32), (5, .int (nI (k + 1)))] [] 0 0 := by
        intro hne
        rw [nI_clamp (by omega), g_sy3] at hne
        rw [if_neg hne] at hz
        exact ih (k + 1) (by omega) hz
      have hfnd : (x_bytS.getD 3 []).getD (nI k).toNatClampNeg 0 = c.toInt8.toInt32 → nI k = g_ixF c.toInt8.toInt32 g_sy 0 := by
        intro hne
        rw [nI_clamp (by omega), g_sy3] at hne
        rw [if_pos hne] at hz
        exact hz
      refine x_iload d_L1_indexOfChar_7 rfl ?_
      refine x_iload_n d_L1_indexOfChar_9 rfl rfl ?_
      refine x_icmp_ge 31 d_L1_indexOfChar_10 (by decide) (fun z => absurd z (show ¬ nI 17 ≤ nI k from nI_ge (by omega) (by decide))) (fun _ => ?_)
      refine x_aload_n d_L1_indexOfChar_13 rfl rfl ?_
      refine x_iload d_L1_indexOfChar_14 rfl ?_
      refine x_bSV (i := 3) d_L1_indexOfChar_16 (by decide) (vp_in_nI (show k < 17 by omega) (by decide)) ?_
      refine x_iload d_L1_indexOfChar_17 rfl ?_
      refine x_icmp_ne 25 d_L1_indexOfChar_19 (by decide) (fun c_19 => ?_) (fun c_19 => ?_)
      · refine x_iinc d_L1_indexOfChar_25 rfl 1 (by decide) (Nat.le_of_ble_eq_true rfl) ?_
        refine x_goto 7 d_L1_indexOfChar_28 (by decide) ?_
        refine x_lv [(0, .ref 3000003), (1, .int c), (2, .int (nI 0)), (3, .int (nI 17)), (4, .int c.toInt8.toInt32), (5, .int (nI (k + 1)))] (by rw [nI_succ k]; rfl) ?_
        exact hrec c_19
      · refine x_iload d_L1_indexOfChar_22 rfl ?_
        refine x_topi _ (hfnd c_19) ?_
        exact x_ireturn d_L1_indexOfChar_24 rfl rfl ⟨rfl, rfl, fun _ _ => rfl, rfl, rfl⟩
  show x_W E M_L1_indexOfChar _ _ n h 0 [(0, .ref 3000003), (1, .int c), (2, .int (nI 0)), (3, .int (nI 17))] [] 0 0
  refine x_iload_n d_L1_indexOfChar_0 rfl rfl ?_
  refine x_i2b d_L1_indexOfChar_1 ?_
  refine x_istore d_L1_indexOfChar_2 (Nat.le_of_ble_eq_true rfl) ?_
  refine x_iload_n d_L1_indexOfChar_4 rfl rfl ?_
  refine x_istore d_L1_indexOfChar_5 (Nat.le_of_ble_eq_true rfl) ?_
  exact hloop 17 0 rfl rfl
theorem d_L1_canEncode_0 : decode M_L1_canEncode.2.1 0 = .ok (.iload_n 0, 1) := by decide +kernel
theorem d_L1_canEncode_1 : decode M_L1_canEncode.2.1 1 = .ok (.ifCond .lt 14, 3) := by decide +kernel
theorem d_L1_canEncode_4 : decode M_L1_canEncode.2.1 4 = .ok (.iload_n 0, 1) := by decide +kernel
theorem d_L1_canEncode_5 : decode M_L1_canEncode.2.1 5 = .ok (.sipush 255, 3) := by decide +kernel
theorem d_L1_canEncode_8 : decode M_L1_canEncode.2.1 8 = .ok (.if_icmp .gt 7, 3) := by decide +kernel
theorem d_L1_canEncode_11 : decode M_L1_canEncode.2.1 11 = .ok (.iconst 1, 1) := by decide +kernel
theorem d_L1_canEncode_12 : decode M_L1_canEncode.2.1 12 = .ok (.goto 4, 3) := by decide +kernel
theorem d_L1_canEncode_16 : decode M_L1_canEncode.2.1 16 = .ok (.ireturn, 1) := by decide +kernel
set_option maxRecDepth 20000 in
theorem w_L1_canEncode {E : xR} {n : Nat} {h : xH} {v : Nat} (hv : v < 256) : x_Mt E M_L1_canEncode 0 0 0 [.int (nI v)] n h (x_Y (some (.int 1)) n h) := by
  refine x_Mt.of (by decide) (Nat.le_of_ble_eq_true rfl) ?_
  show x_W E M_L1_canEncode _ _ n h 0 [(0, .int (nI v))] [] 0 0
  refine x_iload_n d_L1_canEncode_0 rfl rfl ?_
  refine x_if_lt 15 d_L1_canEncode_1 (by decide) (fun z => absurd z (nI_pos (by omega))) (fun _ => ?_)
  refine x_iload_n d_L1_canEncode_4 rfl rfl ?_
  refine x_sipush 255 d_L1_canEncode_5 (by decide) ?_
  refine x_icmp_gt 15 d_L1_canEncode_8 (by decide) (fun z => absurd z (show ¬ nI 255 < nI v from nI_nlt (by omega) (by omega))) (fun _ => ?_)
  refine x_iconst 1 d_L1_canEncode_11 (by decide) ?_
  refine x_goto 16 d_L1_canEncode_12 (by decide) ?_
  exact x_ireturn d_L1_canEncode_16 rfl rfl ⟨rfl, rfl, fun _ _ => rfl, rfl, rfl⟩
theorem d_L1_indexOf_0 : decode M_L1_indexOf.2.1 0 = .ok (.iload_n 1, 1) := by decide +kernel
theorem d_L1_indexOf_1 : decode M_L1_indexOf.2.1 1 = .ok (.invokestatic 88, 3) := by decide +kernel
theorem d_L1_indexOf_4 : decode M_L1_indexOf.2.1 4 = .ok (.ifCond .ne 5, 3) := by decide +kernel
theorem d_L1_indexOf_9 : decode M_L1_indexOf.2.1 9 = .ok (.iload_n 2, 1) := by decide +kernel
theorem d_L1_indexOf_10 : decode M_L1_indexOf.2.1 10 = .ok (.iconst 0, 1) := by decide +kernel
theorem d_L1_indexOf_11 : decode M_L1_indexOf.2.1 11 = .ok (.invokestatic 92, 3) := by decide +kernel
theorem d_L1_indexOf_14 : decode M_L1_indexOf.2.1 14 = .ok (.istore_n 2, 1) := by decide +kernel
theorem d_L1_indexOf_15 : decode M_L1_indexOf.2.1 15 = .ok (.iload_n 3, 1) := by decide +kernel
theorem d_L1_indexOf_16 : decode M_L1_indexOf.2.1 16 = .ok (.aload_n 0, 1) := by decide +kernel
theorem d_L1_indexOf_17 : decode M_L1_indexOf.2.1 17 = .ok (.arraylength, 1) := by decide +kernel
theorem d_L1_indexOf_18 : decode M_L1_indexOf.2.1 18 = .ok (.invokestatic 38, 3) := by decide +kernel
theorem d_L1_indexOf_21 : decode M_L1_indexOf.2.1 21 = .ok (.istore_n 3, 1) := by decide +kernel
theorem d_L1_indexOf_22 : decode M_L1_indexOf.2.1 22 = .ok (.iload_n 2, 1) := by decide +kernel
theorem d_L1_indexOf_23 : decode M_L1_indexOf.2.1 23 = .ok (.iload_n 3, 1) := by decide +kernel
theorem d_L1_indexOf_24 : decode M_L1_indexOf.2.1 24 = .ok (.if_icmp .lt 5, 3) := by decide +kernel
theorem d_L1_indexOf_29 : decode M_L1_indexOf.2.1 29 = .ok (.aload_n 0, 1) := by decide +kernel
theorem d_L1_indexOf_30 : decode M_L1_indexOf.2.1 30 = .ok (.iload_n 1, 1) := by decide +kernel
theorem d_L1_indexOf_31 : decode M_L1_indexOf.2.1 31 = .ok (.iload_n 2, 1) := by decide +kernel
theorem d_L1_indexOf_32 : decode M_L1_indexOf.2.1 32 = .ok (.iload_n 3, 1) := by decide +kernel
theorem d_L1_indexOf_33 : decode M_L1_indexOf.2.1 33 = .ok (.invokestatic 95, 3) := by decide +kernel
theorem d_L1_indexOf_36 : decode M_L1_indexOf.2.1 36 = .ok (.ireturn, 1) := by decide +kernel
set_option maxRecDepth 20000 in
theorem w_L1_indexOf {E : xR} {n : Nat} {h : xH} {v : Nat} (hv : v < 256) : x_Mt E M_L1_indexOf 1 0 0 [.ref 3000003, .int (nI v), .int (nI 0), .int (nI 17)] n h (x_Y (some (.int (g_ixF (nI v).toInt8.toInt32 g_sy 0))) n h) := by
  refine x_Mt.of (by decide) (Nat.le_of_ble_eq_true rfl) ?_
  show x_W E M_L1_indexOf _ _ n h 0 [(0, .ref 3000003), (1, .int (nI v)), (2, .int (nI 0)), (3, .int (nI 17))] [] 0 0
  refine x_iload_n d_L1_indexOf_0 rfl rfl ?_
  refine x_callS1Y d_L1_indexOf_1 k_L1_88 (w_L1_canEncode hv) (Nat.le_of_ble_eq_true rfl) (Nat.le_of_ble_eq_true rfl) (Nat.le_of_ble_eq_true rfl) (Nat.le_of_ble_eq_true rfl) (Nat.le_of_ble_eq_true rfl) rfl ?_
  refine x_if_ne 9 d_L1_indexOf_4 (by decide) (fun _ => ?_) (fun z => absurd z (by decide))
  refine x_iload_n d_L1_indexOf_9 rfl rfl ?_
  refine x_iconst 0 d_L1_indexOf_10 (by decide) ?_
  refine x_mmax d_L1_indexOf_11 (x_mem 496 (by decide +kernel) (by decide +kernel)) k_L1_92 (Nat.le_of_ble_eq_true rfl) (Nat.le_of_ble_eq_true rfl) (Nat.le_of_ble_eq_true rfl) (Nat.le_of_ble_eq_true rfl) (Nat.le_of_ble_eq_true rfl) ?_
  refine x_topi (nI 0) (by decide) ?_
  refine x_istore_n d_L1_indexOf_14 rfl (Nat.le_of_ble_eq_true rfl) ?_
  refine x_iload_n d_L1_indexOf_15 rfl rfl ?_
  refine x_aload_n d_L1_indexOf_16 rfl rfl ?_
  refine x_lenSV (i := 3) d_L1_indexOf_17 (by decide) ?_
  refine x_mmin d_L1_indexOf_18 (x_mem 499 (by decide +kernel) (by decide +kernel)) k_L1_38 (Nat.le_of_ble_eq_true rfl) (Nat.le_of_ble_eq_true rfl) (Nat.le_of_ble_eq_true rfl) (Nat.le_of_ble_eq_true rfl) (Nat.le_of_ble_eq_true rfl) ?_
  refine x_topi (nI 17) (by decide) ?_
  refine x_istore_n d_L1_indexOf_21 rfl (Nat.le_of_ble_eq_true rfl) ?_
  refine x_iload_n d_L1_indexOf_22 rfl rfl ?_
  refine x_iload_n d_L1_indexOf_23 rfl rfl ?_
  refine x_icmp_lt 29 d_L1_indexOf_24 (by decide) (fun _ => ?_) (fun z => absurd (show nI 0 < nI 17 from nI_lt (by decide) (by decide)) z)
  refine x_aload_n d_L1_indexOf_29 rfl rfl ?_
  refine x_iload_n d_L1_indexOf_30 rfl rfl ?_
  refine x_iload_n d_L1_indexOf_31 rfl rfl ?_
  refine x_iload_n d_L1_indexOf_32 rfl rfl ?_
  refine x_callS4Y d_L1_indexOf_33 k_L1_95 w_L1_indexOfChar (Nat.le_of_ble_eq_true rfl) (Nat.le_of_ble_eq_true rfl) (Nat.le_of_ble_eq_true rfl) (Nat.le_of_ble_eq_true rfl) (Nat.le_of_ble_eq_true rfl) rfl ?_
  exact x_ireturn d_L1_indexOf_36 rfl rfl ⟨rfl, rfl, fun _ _ => rfl, rfl, rfl⟩
theorem d_ST_indexOf1_0 : decode M_ST_indexOf1.2.1 0 = .ok (.aload_n 0, 1) := by decide +kernel
theorem d_ST_indexOf1_1 : decode M_ST_indexOf1.2.1 1 = .ok (.invokevirtual 492, 3) := by decide +kernel
theorem d_ST_indexOf1_4 : decode M_ST_indexOf1.2.1 4 = .ok (.ifCond .eq 19, 3) := by decide +kernel
theorem d_ST_indexOf1_7 : decode M_ST_indexOf1.2.1 7 = .ok (.aload_n 0, 1) := by decide +kernel
theorem d_ST_indexOf1_8 : decode M_ST_indexOf1.2.1 8 = .ok (.getfield 9, 3) := by decide +kernel
theorem d_ST_indexOf1_11 : decode M_ST_indexOf1.2.1 11 = .ok (.iload_n 1, 1) := by decide +kernel
theorem d_ST_indexOf1_12 : decode M_ST_indexOf1.2.1 12 = .ok (.iload_n 2, 1) := by decide +kernel
theorem d_ST_indexOf1_13 : decode M_ST_indexOf1.2.1 13 = .ok (.aload_n 0, 1) := by decide +kernel
theorem d_ST_indexOf1_14 : decode M_ST_indexOf1.2.1 14 = .ok (.invokevirtual 505, 3) := by decide +kernel
theorem d_ST_indexOf1_17 : decode M_ST_indexOf1.2.1 17 = .ok (.invokestatic 637, 3) := by decide +kernel
theorem d_ST_indexOf1_20 : decode M_ST_indexOf1.2.1 20 = .ok (.goto 16, 3) := by decide +kernel
theorem d_ST_indexOf1_36 : decode M_ST_indexOf1.2.1 36 = .ok (.ireturn, 1) := by decide +kernel
set_option maxRecDepth 20000 in
theorem w_ST_indexOf1 {E : xR} {n : Nat} {h : xH} {v : Nat} (hv : v < 256) : x_Mt E M_ST_indexOf1 2 0 0 [.ref 2000003, .int (nI v), .int (nI 0)] n h (x_Y (some (.int (g_ixF (nI v).toInt8.toInt32 g_sy 0))) n h) := by
  refine x_Mt.of (by decide) (Nat.le_of_ble_eq_true rfl) ?_
  show x_W E M_ST_indexOf1 _ _ n h 0 [(0, .ref 2000003), (1, .int (nI v)), (2, .int (nI 0))] [] 0 0
  refine x_aload_n d_ST_indexOf1_0 rfl rfl ?_
  refine x_callT0Y d_ST_indexOf1_1 k_ST_492 rfl (i := 3) (by decide) (w_ST_isLatin1 (i := 3) (by decide)) (Nat.le_of_ble_eq_true rfl) (Nat.le_of_ble_eq_true rfl) (Nat.le_of_ble_eq_true rfl) (Nat.le_of_ble_eq_true rfl) (Nat.le_of_ble_eq_true rfl) rfl ?_
  refine x_if_eq 23 d_ST_indexOf1_4 (by decide) (fun z => absurd z (by decide)) (fun _ => ?_)
  refine x_aload_n d_ST_indexOf1_7 rfl rfl ?_
  refine x_gSTv d_ST_indexOf1_8 (i := 3) (by decide) (Or.inl (x_mem 1314 (by decide +kernel) (by decide +kernel))) ?_
  refine x_iload_n d_ST_indexOf1_11 rfl rfl ?_
  refine x_iload_n d_ST_indexOf1_12 rfl rfl ?_
  refine x_aload_n d_ST_indexOf1_13 rfl rfl ?_
  refine x_callT0Y d_ST_indexOf1_14 k_ST_505 rfl (i := 3) (by decide) (w_ST_length (i := 3) (by decide)) (Nat.le_of_ble_eq_true rfl) (Nat.le_of_ble_eq_true rfl) (Nat.le_of_ble_eq_true rfl) (Nat.le_of_ble_eq_true rfl) (Nat.le_of_ble_eq_true rfl) rfl ?_
  refine x_callS4Y d_ST_indexOf1_17 k_ST_637 (w_L1_indexOf hv) (Nat.le_of_ble_eq_true rfl) (Nat.le_of_ble_eq_true rfl) (Nat.le_of_ble_eq_true rfl) (Nat.le_of_ble_eq_true rfl) (Nat.le_of_ble_eq_true rfl) rfl ?_
  refine x_goto 36 d_ST_indexOf1_20 (by decide) ?_
  exact x_ireturn d_ST_indexOf1_36 rfl rfl ⟨rfl, rfl, fun _ _ => rfl, rfl, rfl⟩
theorem d_ST_indexOf0_0 : decode M_ST_indexOf0.2.1 0 = .ok (.aload_n 0, 1) := by decide +kernel
theorem d_ST_indexOf0_1 : decode M_ST_indexOf0.2.1 1 = .ok (.iload_n 1, 1) := by decide +kernel
theorem d_ST_indexOf0_2 : decode M_ST_indexOf0.2.1 2 = .ok (.iconst 0, 1) := by decide +kernel
theorem d_ST_indexOf0_3 : decode M_ST_indexOf0.2.1 3 = .ok (.invokevirtual 633, 3) := by decide +kernel
theorem d_ST_indexOf0_6 : decode M_ST_indexOf0.2.1 6 = .ok (.ireturn, 1) := by decide +kernel
set_option maxRecDepth 20000 in
theorem w_ST_indexOf0 {E : xR} {n : Nat} {h : xH} {v : Nat} (hv : v < 256) : x_Mt E M_ST_indexOf0 3 0 0 [.ref 2000003, .int (nI v)] n h (x_Y (some (.int (g_ixF (nI v).toInt8.toInt32 g_sy 0))) n h) := by
  refine x_Mt.of (by decide) (Nat.le_of_ble_eq_true rfl) ?_
  show x_W E M_ST_indexOf0 _ _ n h 0 [(0, .ref 2000003), (1, .int (nI v))] [] 0 0
  refine x_aload_n d_ST_indexOf0_0 rfl rfl ?_
  refine x_iload_n d_ST_indexOf0_1 rfl rfl ?_
  refine x_iconst 0 d_ST_indexOf0_2 (by decide) ?_
  refine x_callT2Y d_ST_indexOf0_3 k_ST_633 rfl (i := 3) (by decide) (w_ST_indexOf1 hv) (Nat.le_of_ble_eq_true rfl) (Nat.le_of_ble_eq_true rfl) (Nat.le_of_ble_eq_true rfl) (Nat.le_of_ble_eq_true rfl) (Nat.le_of_ble_eq_true rfl) rfl ?_
  exact x_ireturn d_ST_indexOf0_6 rfl rfl ⟨rfl, rfl, fun _ _ => rfl, rfl, rfl⟩
