theorem x_s0 {P : Nat → Prop} : ∀ j, j < 0 → P j := fun j h => absurd h (Nat.not_lt_zero j)
theorem x_s1 {P : Nat → Prop} {n : Nat} (h : ∀ j, j < n → P j) (hn : P n) : ∀ j, j < n + 1 → P j := fun j hj => by
  by_cases e : j = n
  · rw [e]; exact hn
  · exact h j (by omega)
/-- what a constructor leaves -/
def x_IN (n1 kc ks : Nat) (P : xH → Prop) : xK := fun o n' h' k j => o = .inl none ∧ n' = n1 ∧ k = kc ∧ j = ks ∧ P h'
theorem x_callI0P {E : xR} {M : xM} {R : Room} {Q : xK} {n : Nat} {h : xH} {pc : Nat} {lv : List (Nat × Value)} {rest : List Value} {cells slots : Nat} {idx : Nat} {M' : xM} {d0 kc ks i n1 : Nat} {P : xH → Prop} (d : decode M.2.1 pc = .ok (.invokespecial idx, 3)) (hk : x_CI M.1.cls idx M' 0) (hM : x_Mt E M' d0 kc ks [.ref i] n h (x_IN n1 kc ks P)) (hfr : d0 + 1 ≤ R.frames) (hlo : 8 + (M'.2.2.1 + 11) + 64 * d0 ≤ R.locals) (hcl : cells + kc ≤ R.cells) (hsl : slots + ks ≤ R.slots) (hrs : (rest.map fun v => v.category).sum ≤ 8) (ho : M.2.2.2.2.all (fun t => !(decide (t.1 ≤ pc) && decide (pc < t.2.1))) = true) (hn : n1 = n + kc) (kr : ∀ h1, P h1 → x_W E M R Q n1 h1 (pc + 3) lv rest (cells + kc) (slots + ks)) : x_W E M R Q n h pc lv (.ref i :: rest) cells slots :=
  x_callI0 d hk hM hfr hlo hcl hsl hrs ho (fun _ v n' h' k j hq => by obtain ⟨-, e2, e3, -⟩ := hq; rw [e2, e3]; exact hn) (fun v n' h' k j hq => by obtain ⟨e1, e2, e3, e4, hp⟩ := hq; cases e1; subst e2 e3 e4; exact kr h' hp) (fun q n' h' k j hq => by cases hq.1)
theorem x_callI2P {E : xR} {M : xM} {R : Room} {Q : xK} {n : Nat} {h : xH} {pc : Nat} {lv : List (Nat × Value)} {rest : List Value} {cells slots : Nat} {idx : Nat} {M' : xM} {d0 kc ks i n1 : Nat} {a1 a2 : Value} {P : xH → Prop} (d : decode M.2.1 pc = .ok (.invokespecial idx, 3)) (hk : x_CI M.1.cls idx M' 2) (hM : x_Mt E M' d0 kc ks [.ref i, a1, a2] n h (x_IN n1 kc ks P)) (hfr : d0 + 1 ≤ R.frames) (hlo : 8 + (M'.2.2.1 + 11) + 64 * d0 ≤ R.locals) (hcl : cells + kc ≤ R.cells) (hsl : slots + ks ≤ R.slots) (hrs : (rest.map fun v => v.category).sum ≤ 8) (ho : M.2.2.2.2.all (fun t => !(decide (t.1 ≤ pc) && decide (pc < t.2.1))) = true) (hn : n1 = n + kc) (kr : ∀ h1, P h1 → x_W E M R Q n1 h1 (pc + 3) lv rest (cells + kc) (slots + ks)) : x_W E M R Q n h pc lv (a2 :: a1 :: .ref i :: rest) cells slots :=
  x_callI2 d hk hM hfr hlo hcl hsl hrs ho (fun _ v n' h' k j hq => by obtain ⟨-, e2, e3, -⟩ := hq; rw [e2, e3]; exact hn) (fun v n' h' k j hq => by obtain ⟨e1, e2, e3, e4, hp⟩ := hq; cases e1; subst e2 e3 e4; exact kr h' hp) (fun q n' h' k j hq => by cases hq.1)
theorem x_newaI {E : xR} {M : xM} {R : Room} {Q : xK} {n : Nat} {h : xH} {pc : Nat} {lv : List (Nat × Value)} {rest : List Value} {cells slots : Nat} {z : Int32} (N : Nat) (d : decode M.2.1 pc = .ok (.newarray .int, 2)) (htg : x_tg E) (hn : ¬ z < 0) (hN : z.toNatClampNeg = N) (hbytes : N * componentBytes .int ≤ 536870912) (hcells : cells + 1 ≤ R.cells) (hslots : slots + N ≤ R.slots) (hlo : n < 1000000) (kk : x_W E M R Q (n + 1) (x_up h n (.inl (0, N, .inl (fun _ => 0)))) (pc + 2) lv (.ref n :: rest) (cells + 1) (slots + N)) : x_W E M R Q n h pc lv (.int z :: rest) cells slots :=
  x_newa d 0 N (N, .inl (fun _ => 0)) htg rfl (x_mem 202 (by decide +kernel) (by decide +kernel)) rfl (fun _ _ h => h) (fun _ => rfl) hn hN hbytes hcells hslots hlo kk
theorem x_newaB {E : xR} {M : xM} {R : Room} {Q : xK} {n : Nat} {h : xH} {pc : Nat} {lv : List (Nat × Value)} {rest : List Value} {cells slots : Nat} {z : Int32} (N : Nat) (d : decode M.2.1 pc = .ok (.newarray .byte, 2)) (htg : x_tg E) (hn : ¬ z < 0) (hN : z.toNatClampNeg = N) (hbytes : N * componentBytes .byte ≤ 536870912) (hcells : cells + 1 ≤ R.cells) (hslots : slots + N ≤ R.slots) (hlo : n < 1000000) (kk : x_W E M R Q (n + 1) (x_up h n (.inl (1, N, .inl (fun _ => 0)))) (pc + 2) lv (.ref n :: rest) (cells + 1) (slots + N)) : x_W E M R Q n h pc lv (.int z :: rest) cells slots :=
  x_newa d 1 N (N, .inl (fun _ => 0)) htg rfl (x_mem 144 (by decide +kernel) (by decide +kernel)) rfl (fun _ _ h => h) (fun _ => rfl) hn hN hbytes hcells hslots hlo kk
theorem x_newaJ {E : xR} {M : xM} {R : Room} {Q : xK} {n : Nat} {h : xH} {pc : Nat} {lv : List (Nat × Value)} {rest : List Value} {cells slots : Nat} {z : Int32} (N : Nat) (d : decode M.2.1 pc = .ok (.newarray .long, 2)) (htg : x_tg E) (hn : ¬ z < 0) (hN : z.toNatClampNeg = N) (hbytes : N * componentBytes .long ≤ 536870912) (hcells : cells + 1 ≤ R.cells) (hslots : slots + N ≤ R.slots) (hlo : n < 1000000) (kk : x_W E M R Q (n + 1) (x_up h n (.inl (2, N, .inr (.inl (fun _ => 0))))) (pc + 2) lv (.ref n :: rest) (cells + 1) (slots + N)) : x_W E M R Q n h pc lv (.int z :: rest) cells slots :=
  x_newa d 2 N (N, .inr (.inl (fun _ => 0))) htg rfl (x_mem 858 (by decide +kernel) (by decide +kernel)) rfl (fun _ _ h => h) (fun _ => rfl) hn hN hbytes hcells hslots hlo kk
theorem d_SG_init_0 : decode M_SG_init.2.1 0 = .ok (.aload_n 0, 1) := by decide +kernel
theorem d_SG_init_1 : decode M_SG_init.2.1 1 = .ok (.invokespecial 3, 3) := by decide +kernel
theorem d_SG_init_4 : decode M_SG_init.2.1 4 = .ok (.aload_n 0, 1) := by decide +kernel
theorem d_SG_init_5 : decode M_SG_init.2.1 5 = .ok (.iconst 0, 1) := by decide +kernel
theorem d_SG_init_6 : decode M_SG_init.2.1 6 = .ok (.newarray .byte, 2) := by decide +kernel
theorem d_SG_init_8 : decode M_SG_init.2.1 8 = .ok (.putfield 9, 3) := by decide +kernel
theorem d_SG_init_11 : decode M_SG_init.2.1 11 = .ok (.aload_n 0, 1) := by decide +kernel
theorem d_SG_init_12 : decode M_SG_init.2.1 12 = .ok (.getstatic 15, 3) := by decide +kernel
theorem d_SG_init_15 : decode M_SG_init.2.1 15 = .ok (.putfield 21, 3) := by decide +kernel
theorem d_SG_init_18 : decode M_SG_init.2.1 18 = .ok (.aload_n 0, 1) := by decide +kernel
theorem d_SG_init_19 : decode M_SG_init.2.1 19 = .ok (.iconst (-1), 1) := by decide +kernel
theorem d_SG_init_20 : decode M_SG_init.2.1 20 = .ok (.putfield 24, 3) := by decide +kernel
theorem d_SG_init_23 : decode M_SG_init.2.1 23 = .ok (.return_, 1) := by decide +kernel
set_option maxRecDepth 20000 in
theorem w_SG_init {E : xR} {h : xH} (htg : x_tg E) (ho : h 3 = .inr (2, [.null, .int 0, .int 0, .null, .int 0, .int 0, .int 0, .int 0])) : x_Mt E M_SG_init 1 1 0 [.ref 3] 4 h (x_IN 5 1 0 (fun h' => h' 3 = .inr (2, [.ref 4, .int 0, .int 0, .ref 1000011, .int 0, .int 0, .int 0, .int (-1)]) ∧ h' 4 = .inl (1, 0, .inl (fun _ => 0)) ∧ ∀ i, i < 3 → h' i = h i)) := by
  refine x_Mt.of (by decide) (Nat.le_of_ble_eq_true rfl) ?_
  show x_W E M_SG_init _ _ 4 h 0 [(0, .ref 3)] [] 0 0
  refine x_aload_n d_SG_init_0 rfl rfl ?_
  refine x_objInit d_SG_init_1 (x_mem 110 (by decide +kernel) (by decide +kernel)) (x_mem 97 (by decide +kernel) (by decide +kernel)) (x_mem 98 (by decide +kernel) (by decide +kernel)) (Nat.le_of_ble_eq_true rfl) (Nat.le_of_ble_eq_true rfl) (Nat.le_of_ble_eq_true rfl) ?_
  refine x_aload_n d_SG_init_4 rfl rfl ?_
  refine x_iconst 0 d_SG_init_5 (by decide) ?_
  refine x_newaB 0 d_SG_init_6 htg (by decide) (by decide) (by decide) (Nat.le_of_ble_eq_true rfl) (Nat.le_of_ble_eq_true rfl) (Nat.le_of_ble_eq_true rfl) ?_
  refine x_put d_SG_init_8 f_SG_9 (Nat.le_of_ble_eq_true rfl) (Nat.le_of_ble_eq_true rfl) (by first | rfl | assumption) (by rfl) (by rfl) (by exact (Nat.le_of_ble_eq_true rfl)) ?_
  refine x_aload_n d_SG_init_11 rfl rfl ?_
  refine x_gSN (i := 11) d_SG_init_12 (by decide) s_SG_15 ?_
  refine x_put d_SG_init_15 f_SG_21 (Nat.le_of_ble_eq_true rfl) (Nat.le_of_ble_eq_true rfl) (by first | rfl | assumption) (by rfl) (by rfl) (by exact (Nat.le_of_ble_eq_true rfl)) ?_
  refine x_aload_n d_SG_init_18 rfl rfl ?_
  refine x_iconst (-1) d_SG_init_19 (by decide) ?_
  refine x_put d_SG_init_20 f_SG_24 (Nat.le_of_ble_eq_true rfl) (Nat.le_of_ble_eq_true rfl) (by first | rfl | assumption) (by rfl) (by rfl) (by exact (Nat.le_of_ble_eq_true rfl)) ?_
  exact x_return d_SG_init_23 rfl ⟨rfl, rfl, rfl, rfl, rfl, rfl, (fun i hi => by repeat' (first | refine (x_up_ne (by omega)).trans ?_ | rfl))⟩
theorem d_TE_init_0 : decode M_TE_init.2.1 0 = .ok (.aload_n 0, 1) := by decide +kernel
theorem d_TE_init_1 : decode M_TE_init.2.1 1 = .ok (.invokespecial 3, 3) := by decide +kernel
theorem d_TE_init_4 : decode M_TE_init.2.1 4 = .ok (.aload_n 0, 1) := by decide +kernel
theorem d_TE_init_5 : decode M_TE_init.2.1 5 = .ok (.sipush 1001, 3) := by decide +kernel
theorem d_TE_init_8 : decode M_TE_init.2.1 8 = .ok (.newarray .int, 2) := by decide +kernel
theorem d_TE_init_10 : decode M_TE_init.2.1 10 = .ok (.putfield 11, 3) := by decide +kernel
theorem d_TE_init_13 : decode M_TE_init.2.1 13 = .ok (.aload_n 0, 1) := by decide +kernel
theorem d_TE_init_14 : decode M_TE_init.2.1 14 = .ok (.sipush 1001, 3) := by decide +kernel
theorem d_TE_init_17 : decode M_TE_init.2.1 17 = .ok (.newarray .int, 2) := by decide +kernel
theorem d_TE_init_19 : decode M_TE_init.2.1 19 = .ok (.putfield 15, 3) := by decide +kernel
theorem d_TE_init_22 : decode M_TE_init.2.1 22 = .ok (.aload_n 0, 1) := by decide +kernel
theorem d_TE_init_23 : decode M_TE_init.2.1 23 = .ok (.sipush 1001, 3) := by decide +kernel
theorem d_TE_init_26 : decode M_TE_init.2.1 26 = .ok (.newarray .int, 2) := by decide +kernel
theorem d_TE_init_28 : decode M_TE_init.2.1 28 = .ok (.putfield 18, 3) := by decide +kernel
theorem d_TE_init_31 : decode M_TE_init.2.1 31 = .ok (.aload_n 0, 1) := by decide +kernel
theorem d_TE_init_32 : decode M_TE_init.2.1 32 = .ok (.sipush 1001, 3) := by decide +kernel
theorem d_TE_init_35 : decode M_TE_init.2.1 35 = .ok (.newarray .int, 2) := by decide +kernel
theorem d_TE_init_37 : decode M_TE_init.2.1 37 = .ok (.putfield 21, 3) := by decide +kernel
theorem d_TE_init_40 : decode M_TE_init.2.1 40 = .ok (.aload_n 0, 1) := by decide +kernel
theorem d_TE_init_41 : decode M_TE_init.2.1 41 = .ok (.sipush 1001, 3) := by decide +kernel
theorem d_TE_init_44 : decode M_TE_init.2.1 44 = .ok (.newarray .int, 2) := by decide +kernel
theorem d_TE_init_46 : decode M_TE_init.2.1 46 = .ok (.putfield 24, 3) := by decide +kernel
theorem d_TE_init_49 : decode M_TE_init.2.1 49 = .ok (.aload_n 0, 1) := by decide +kernel
theorem d_TE_init_50 : decode M_TE_init.2.1 50 = .ok (.sipush 1001, 3) := by decide +kernel
theorem d_TE_init_53 : decode M_TE_init.2.1 53 = .ok (.newarray .int, 2) := by decide +kernel
theorem d_TE_init_55 : decode M_TE_init.2.1 55 = .ok (.putfield 27, 3) := by decide +kernel
theorem d_TE_init_58 : decode M_TE_init.2.1 58 = .ok (.aload_n 0, 1) := by decide +kernel
theorem d_TE_init_59 : decode M_TE_init.2.1 59 = .ok (.sipush 1001, 3) := by decide +kernel
theorem d_TE_init_62 : decode M_TE_init.2.1 62 = .ok (.newarray .int, 2) := by decide +kernel
theorem d_TE_init_64 : decode M_TE_init.2.1 64 = .ok (.putfield 30, 3) := by decide +kernel
theorem d_TE_init_67 : decode M_TE_init.2.1 67 = .ok (.aload_n 0, 1) := by decide +kernel
theorem d_TE_init_68 : decode M_TE_init.2.1 68 = .ok (.sipush 1001, 3) := by decide +kernel
theorem d_TE_init_71 : decode M_TE_init.2.1 71 = .ok (.newarray .int, 2) := by decide +kernel
theorem d_TE_init_73 : decode M_TE_init.2.1 73 = .ok (.putfield 33, 3) := by decide +kernel
theorem d_TE_init_76 : decode M_TE_init.2.1 76 = .ok (.aload_n 0, 1) := by decide +kernel
theorem d_TE_init_77 : decode M_TE_init.2.1 77 = .ok (.iconst 0, 1) := by decide +kernel
theorem d_TE_init_78 : decode M_TE_init.2.1 78 = .ok (.newarray .byte, 2) := by decide +kernel
theorem d_TE_init_80 : decode M_TE_init.2.1 80 = .ok (.putfield 36, 3) := by decide +kernel
theorem d_TE_init_83 : decode M_TE_init.2.1 83 = .ok (.return_, 1) := by decide +kernel
set_option maxRecDepth 20000 in
theorem w_TE_init {E : xR} {h : xH} (htg : x_tg E) (ho : h 5 = .inr (3, [.null, .null, .null, .null, .null, .null, .null, .null, .null, .int 0, .int 0, .int 0])) : x_Mt E M_TE_init 1 9 8008 [.ref 5] 6 h (x_IN 15 9 8008 (fun h' => h' 5 = .inr (3, [.ref 6, .ref 7, .ref 8, .ref 9, .ref 10, .ref 11, .ref 12, .ref 13, .ref 14, .int 0, .int 0, .int 0]) ∧ h' 6 = .inl (0, 1001, .inl (fun _ => 0)) ∧ h' 7 = .inl (0, 1001, .inl (fun _ => 0)) ∧ h' 8 = .inl (0, 1001, .inl (fun _ => 0)) ∧ h' 9 = .inl (0, 1001, .inl (fun _ => 0)) ∧ h' 10 = .inl (0, 1001, .inl (fun _ => 0)) ∧ h' 11 = .inl (0, 1001, .inl (fun _ => 0)) ∧ h' 12 = .inl (0, 1001, .inl (fun _ => 0)) ∧ h' 13 = .inl (0, 1001, .inl (fun _ => 0)) ∧ h' 14 = .inl (1, 0, .inl (fun _ => 0)) ∧ ∀ i, i < 5 → h' i = h i)) := by
  refine x_Mt.of (by decide) (Nat.le_of_ble_eq_true rfl) ?_
  show x_W E M_TE_init _ _ 6 h 0 [(0, .ref 5)] [] 0 0
  refine x_aload_n d_TE_init_0 rfl rfl ?_
  refine x_objInit d_TE_init_1 (x_mem 150 (by decide +kernel) (by decide +kernel)) (x_mem 97 (by decide +kernel) (by decide +kernel)) (x_mem 98 (by decide +kernel) (by decide +kernel)) (Nat.le_of_ble_eq_true rfl) (Nat.le_of_ble_eq_true rfl) (Nat.le_of_ble_eq_true rfl) ?_
  refine x_aload_n d_TE_init_4 rfl rfl ?_
  refine x_sipush 1001 d_TE_init_5 (by decide) ?_
  refine x_newaI 1001 d_TE_init_8 htg (by decide) (by decide) (by decide) (Nat.le_of_ble_eq_true rfl) (Nat.le_of_ble_eq_true rfl) (Nat.le_of_ble_eq_true rfl) ?_
  refine x_putF (k := 0) (ty := (.array .int)) d_TE_init_10 rfl "TermReader$Tree" F_TE 12 t_TE c_TE (by decide) rfl rfl rfl (x_mem 151 (by decide +kernel) (by decide +kernel)) (Nat.le_of_ble_eq_true rfl) (Nat.le_of_ble_eq_true rfl) (by first | rfl | assumption) (by rfl) (by rfl) (by exact (Nat.le_of_ble_eq_true rfl)) ?_
  refine x_aload_n d_TE_init_13 rfl rfl ?_
  refine x_sipush 1001 d_TE_init_14 (by decide) ?_
  refine x_newaI 1001 d_TE_init_17 htg (by decide) (by decide) (by decide) (Nat.le_of_ble_eq_true rfl) (Nat.le_of_ble_eq_true rfl) (Nat.le_of_ble_eq_true rfl) ?_
  refine x_putF (k := 1) (ty := (.array .int)) d_TE_init_19 rfl "TermReader$Tree" F_TE 12 t_TE c_TE (by decide) rfl rfl rfl (x_mem 154 (by decide +kernel) (by decide +kernel)) (Nat.le_of_ble_eq_true rfl) (Nat.le_of_ble_eq_true rfl) (by first | rfl | assumption) (by rfl) (by rfl) (by exact (Nat.le_of_ble_eq_true rfl)) ?_
  refine x_aload_n d_TE_init_22 rfl rfl ?_
  refine x_sipush 1001 d_TE_init_23 (by decide) ?_
  refine x_newaI 1001 d_TE_init_26 htg (by decide) (by decide) (by decide) (Nat.le_of_ble_eq_true rfl) (Nat.le_of_ble_eq_true rfl) (Nat.le_of_ble_eq_true rfl) ?_
  refine x_putF (k := 2) (ty := (.array .int)) d_TE_init_28 rfl "TermReader$Tree" F_TE 12 t_TE c_TE (by decide) rfl rfl rfl (x_mem 156 (by decide +kernel) (by decide +kernel)) (Nat.le_of_ble_eq_true rfl) (Nat.le_of_ble_eq_true rfl) (by first | rfl | assumption) (by rfl) (by rfl) (by exact (Nat.le_of_ble_eq_true rfl)) ?_
  refine x_aload_n d_TE_init_31 rfl rfl ?_
  refine x_sipush 1001 d_TE_init_32 (by decide) ?_
  refine x_newaI 1001 d_TE_init_35 htg (by decide) (by decide) (by decide) (Nat.le_of_ble_eq_true rfl) (Nat.le_of_ble_eq_true rfl) (Nat.le_of_ble_eq_true rfl) ?_
  refine x_putF (k := 3) (ty := (.array .int)) d_TE_init_37 rfl "TermReader$Tree" F_TE 12 t_TE c_TE (by decide) rfl rfl rfl (x_mem 158 (by decide +kernel) (by decide +kernel)) (Nat.le_of_ble_eq_true rfl) (Nat.le_of_ble_eq_true rfl) (by first | rfl | assumption) (by rfl) (by rfl) (by exact (Nat.le_of_ble_eq_true rfl)) ?_
  refine x_aload_n d_TE_init_40 rfl rfl ?_
  refine x_sipush 1001 d_TE_init_41 (by decide) ?_
  refine x_newaI 1001 d_TE_init_44 htg (by decide) (by decide) (by decide) (Nat.le_of_ble_eq_true rfl) (Nat.le_of_ble_eq_true rfl) (Nat.le_of_ble_eq_true rfl) ?_
  refine x_putF (k := 4) (ty := (.array .int)) d_TE_init_46 rfl "TermReader$Tree" F_TE 12 t_TE c_TE (by decide) rfl rfl rfl (x_mem 160 (by decide +kernel) (by decide +kernel)) (Nat.le_of_ble_eq_true rfl) (Nat.le_of_ble_eq_true rfl) (by first | rfl | assumption) (by rfl) (by rfl) (by exact (Nat.le_of_ble_eq_true rfl)) ?_
  refine x_aload_n d_TE_init_49 rfl rfl ?_
  refine x_sipush 1001 d_TE_init_50 (by decide) ?_
  refine x_newaI 1001 d_TE_init_53 htg (by decide) (by decide) (by decide) (Nat.le_of_ble_eq_true rfl) (Nat.le_of_ble_eq_true rfl) (Nat.le_of_ble_eq_true rfl) ?_
  refine x_putF (k := 5) (ty := (.array .int)) d_TE_init_55 rfl "TermReader$Tree" F_TE 12 t_TE c_TE (by decide) rfl rfl rfl (x_mem 162 (by decide +kernel) (by decide +kernel)) (Nat.le_of_ble_eq_true rfl) (Nat.le_of_ble_eq_true rfl) (by first | rfl | assumption) (by rfl) (by rfl) (by exact (Nat.le_of_ble_eq_true rfl)) ?_
  refine x_aload_n d_TE_init_58 rfl rfl ?_
  refine x_sipush 1001 d_TE_init_59 (by decide) ?_
  refine x_newaI 1001 d_TE_init_62 htg (by decide) (by decide) (by decide) (Nat.le_of_ble_eq_true rfl) (Nat.le_of_ble_eq_true rfl) (Nat.le_of_ble_eq_true rfl) ?_
  refine x_putF (k := 6) (ty := (.array .int)) d_TE_init_64 rfl "TermReader$Tree" F_TE 12 t_TE c_TE (by decide) rfl rfl rfl (x_mem 164 (by decide +kernel) (by decide +kernel)) (Nat.le_of_ble_eq_true rfl) (Nat.le_of_ble_eq_true rfl) (by first | rfl | assumption) (by rfl) (by rfl) (by exact (Nat.le_of_ble_eq_true rfl)) ?_
  refine x_aload_n d_TE_init_67 rfl rfl ?_
  refine x_sipush 1001 d_TE_init_68 (by decide) ?_
  refine x_newaI 1001 d_TE_init_71 htg (by decide) (by decide) (by decide) (Nat.le_of_ble_eq_true rfl) (Nat.le_of_ble_eq_true rfl) (Nat.le_of_ble_eq_true rfl) ?_
  refine x_putF (k := 7) (ty := (.array .int)) d_TE_init_73 rfl "TermReader$Tree" F_TE 12 t_TE c_TE (by decide) rfl rfl rfl (x_mem 166 (by decide +kernel) (by decide +kernel)) (Nat.le_of_ble_eq_true rfl) (Nat.le_of_ble_eq_true rfl) (by first | rfl | assumption) (by rfl) (by rfl) (by exact (Nat.le_of_ble_eq_true rfl)) ?_
  refine x_aload_n d_TE_init_76 rfl rfl ?_
  refine x_iconst 0 d_TE_init_77 (by decide) ?_
  refine x_newaB 0 d_TE_init_78 htg (by decide) (by decide) (by decide) (Nat.le_of_ble_eq_true rfl) (Nat.le_of_ble_eq_true rfl) (Nat.le_of_ble_eq_true rfl) ?_
  refine x_put d_TE_init_80 f_TE_36 (Nat.le_of_ble_eq_true rfl) (Nat.le_of_ble_eq_true rfl) (by first | rfl | assumption) (by rfl) (by rfl) (by exact (Nat.le_of_ble_eq_true rfl)) ?_
  exact x_return d_TE_init_83 rfl ⟨rfl, rfl, rfl, rfl, rfl, rfl, rfl, rfl, rfl, rfl, rfl, rfl, rfl, rfl, (fun i hi => by repeat' (first | refine (x_up_ne (by omega)).trans ?_ | rfl))⟩
theorem d_PR_init_0 : decode M_PR_init.2.1 0 = .ok (.aload_n 0, 1) := by decide +kernel
theorem d_PR_init_1 : decode M_PR_init.2.1 1 = .ok (.invokespecial 3, 3) := by decide +kernel
theorem d_PR_init_4 : decode M_PR_init.2.1 4 = .ok (.aload_n 0, 1) := by decide +kernel
theorem d_PR_init_5 : decode M_PR_init.2.1 5 = .ok (.sipush 1001, 3) := by decide +kernel
theorem d_PR_init_8 : decode M_PR_init.2.1 8 = .ok (.newarray .int, 2) := by decide +kernel
theorem d_PR_init_10 : decode M_PR_init.2.1 10 = .ok (.putfield 9, 3) := by decide +kernel
theorem d_PR_init_13 : decode M_PR_init.2.1 13 = .ok (.aload_n 0, 1) := by decide +kernel
theorem d_PR_init_14 : decode M_PR_init.2.1 14 = .ok (.sipush 2000, 3) := by decide +kernel
theorem d_PR_init_17 : decode M_PR_init.2.1 17 = .ok (.newarray .int, 2) := by decide +kernel
theorem d_PR_init_19 : decode M_PR_init.2.1 19 = .ok (.putfield 15, 3) := by decide +kernel
theorem d_PR_init_22 : decode M_PR_init.2.1 22 = .ok (.aload_n 0, 1) := by decide +kernel
theorem d_PR_init_23 : decode M_PR_init.2.1 23 = .ok (.iconst 0, 1) := by decide +kernel
theorem d_PR_init_24 : decode M_PR_init.2.1 24 = .ok (.newarray .byte, 2) := by decide +kernel
theorem d_PR_init_26 : decode M_PR_init.2.1 26 = .ok (.putfield 18, 3) := by decide +kernel
theorem d_PR_init_29 : decode M_PR_init.2.1 29 = .ok (.return_, 1) := by decide +kernel
set_option maxRecDepth 20000 in
theorem w_PR_init {E : xR} {h : xH} (htg : x_tg E) (ho : h 15 = .inr (4, [.null, .null, .int 0, .null, .int 0, .int 0])) : x_Mt E M_PR_init 1 3 3001 [.ref 15] 16 h (x_IN 19 3 3001 (fun h' => h' 15 = .inr (4, [.ref 16, .ref 17, .int 0, .ref 18, .int 0, .int 0]) ∧ h' 16 = .inl (0, 1001, .inl (fun _ => 0)) ∧ h' 17 = .inl (0, 2000, .inl (fun _ => 0)) ∧ h' 18 = .inl (1, 0, .inl (fun _ => 0)) ∧ ∀ i, i < 15 → h' i = h i)) := by
  refine x_Mt.of (by decide) (Nat.le_of_ble_eq_true rfl) ?_
  show x_W E M_PR_init _ _ 16 h 0 [(0, .ref 15)] [] 0 0
  refine x_aload_n d_PR_init_0 rfl rfl ?_
  refine x_objInit d_PR_init_1 (x_mem 215 (by decide +kernel) (by decide +kernel)) (x_mem 97 (by decide +kernel) (by decide +kernel)) (x_mem 98 (by decide +kernel) (by decide +kernel)) (Nat.le_of_ble_eq_true rfl) (Nat.le_of_ble_eq_true rfl) (Nat.le_of_ble_eq_true rfl) ?_
  refine x_aload_n d_PR_init_4 rfl rfl ?_
  refine x_sipush 1001 d_PR_init_5 (by decide) ?_
  refine x_newaI 1001 d_PR_init_8 htg (by decide) (by decide) (by decide) (Nat.le_of_ble_eq_true rfl) (Nat.le_of_ble_eq_true rfl) (Nat.le_of_ble_eq_true rfl) ?_
  refine x_putF (k := 0) (ty := (.array .int)) d_PR_init_10 rfl "TermReader$Printer" F_PR 6 t_PR c_PR (by decide) rfl rfl rfl (x_mem 216 (by decide +kernel) (by decide +kernel)) (Nat.le_of_ble_eq_true rfl) (Nat.le_of_ble_eq_true rfl) (by first | rfl | assumption) (by rfl) (by rfl) (by exact (Nat.le_of_ble_eq_true rfl)) ?_
  refine x_aload_n d_PR_init_13 rfl rfl ?_
  refine x_sipush 2000 d_PR_init_14 (by decide) ?_
  refine x_newaI 2000 d_PR_init_17 htg (by decide) (by decide) (by decide) (Nat.le_of_ble_eq_true rfl) (Nat.le_of_ble_eq_true rfl) (Nat.le_of_ble_eq_true rfl) ?_
  refine x_putF (k := 1) (ty := (.array .int)) d_PR_init_19 rfl "TermReader$Printer" F_PR 6 t_PR c_PR (by decide) rfl rfl rfl (x_mem 217 (by decide +kernel) (by decide +kernel)) (Nat.le_of_ble_eq_true rfl) (Nat.le_of_ble_eq_true rfl) (by first | rfl | assumption) (by rfl) (by rfl) (by exact (Nat.le_of_ble_eq_true rfl)) ?_
  refine x_aload_n d_PR_init_22 rfl rfl ?_
  refine x_iconst 0 d_PR_init_23 (by decide) ?_
  refine x_newaB 0 d_PR_init_24 htg (by decide) (by decide) (by decide) (Nat.le_of_ble_eq_true rfl) (Nat.le_of_ble_eq_true rfl) (Nat.le_of_ble_eq_true rfl) ?_
  refine x_put d_PR_init_26 f_PR_18 (Nat.le_of_ble_eq_true rfl) (Nat.le_of_ble_eq_true rfl) (by first | rfl | assumption) (by rfl) (by rfl) (by exact (Nat.le_of_ble_eq_true rfl)) ?_
  exact x_return d_PR_init_29 rfl ⟨rfl, rfl, rfl, rfl, rfl, rfl, rfl, rfl, (fun i hi => by repeat' (first | refine (x_up_ne (by omega)).trans ?_ | rfl))⟩
theorem d_TS_init_0 : decode M_TS_init.2.1 0 = .ok (.aload_n 0, 1) := by decide +kernel
theorem d_TS_init_1 : decode M_TS_init.2.1 1 = .ok (.invokespecial 3, 3) := by decide +kernel
theorem d_TS_init_4 : decode M_TS_init.2.1 4 = .ok (.aload_n 0, 1) := by decide +kernel
theorem d_TS_init_5 : decode M_TS_init.2.1 5 = .ok (.sipush 9000, 3) := by decide +kernel
theorem d_TS_init_8 : decode M_TS_init.2.1 8 = .ok (.newarray .int, 2) := by decide +kernel
theorem d_TS_init_10 : decode M_TS_init.2.1 10 = .ok (.putfield 9, 3) := by decide +kernel
theorem d_TS_init_13 : decode M_TS_init.2.1 13 = .ok (.aload_n 0, 1) := by decide +kernel
theorem d_TS_init_14 : decode M_TS_init.2.1 14 = .ok (.sipush 9000, 3) := by decide +kernel
theorem d_TS_init_17 : decode M_TS_init.2.1 17 = .ok (.newarray .int, 2) := by decide +kernel
theorem d_TS_init_19 : decode M_TS_init.2.1 19 = .ok (.putfield 15, 3) := by decide +kernel
theorem d_TS_init_22 : decode M_TS_init.2.1 22 = .ok (.aload_n 0, 1) := by decide +kernel
theorem d_TS_init_23 : decode M_TS_init.2.1 23 = .ok (.sipush 9000, 3) := by decide +kernel
theorem d_TS_init_26 : decode M_TS_init.2.1 26 = .ok (.newarray .int, 2) := by decide +kernel
theorem d_TS_init_28 : decode M_TS_init.2.1 28 = .ok (.putfield 18, 3) := by decide +kernel
theorem d_TS_init_31 : decode M_TS_init.2.1 31 = .ok (.aload_n 0, 1) := by decide +kernel
theorem d_TS_init_32 : decode M_TS_init.2.1 32 = .ok (.sipush 9000, 3) := by decide +kernel
theorem d_TS_init_35 : decode M_TS_init.2.1 35 = .ok (.newarray .int, 2) := by decide +kernel
theorem d_TS_init_37 : decode M_TS_init.2.1 37 = .ok (.putfield 21, 3) := by decide +kernel
theorem d_TS_init_40 : decode M_TS_init.2.1 40 = .ok (.aload_n 0, 1) := by decide +kernel
theorem d_TS_init_41 : decode M_TS_init.2.1 41 = .ok (.sipush 9000, 3) := by decide +kernel
theorem d_TS_init_44 : decode M_TS_init.2.1 44 = .ok (.newarray .int, 2) := by decide +kernel
theorem d_TS_init_46 : decode M_TS_init.2.1 46 = .ok (.putfield 24, 3) := by decide +kernel
theorem d_TS_init_49 : decode M_TS_init.2.1 49 = .ok (.aload_n 0, 1) := by decide +kernel
theorem d_TS_init_50 : decode M_TS_init.2.1 50 = .ok (.sipush 9000, 3) := by decide +kernel
theorem d_TS_init_53 : decode M_TS_init.2.1 53 = .ok (.newarray .long, 2) := by decide +kernel
theorem d_TS_init_55 : decode M_TS_init.2.1 55 = .ok (.putfield 27, 3) := by decide +kernel
theorem d_TS_init_58 : decode M_TS_init.2.1 58 = .ok (.return_, 1) := by decide +kernel
set_option maxRecDepth 20000 in
theorem w_TS_init {E : xR} {h : xH} (htg : x_tg E) (ho : h 24 = .inr (6, [.null, .null, .null, .null, .null, .null, .int 0, .int 0])) : x_Mt E M_TS_init 1 6 54000 [.ref 24] 25 h (x_IN 31 6 54000 (fun h' => h' 24 = .inr (6, [.ref 25, .ref 26, .ref 27, .ref 28, .ref 29, .ref 30, .int 0, .int 0]) ∧ h' 25 = .inl (0, 9000, .inl (fun _ => 0)) ∧ h' 26 = .inl (0, 9000, .inl (fun _ => 0)) ∧ h' 27 = .inl (0, 9000, .inl (fun _ => 0)) ∧ h' 28 = .inl (0, 9000, .inl (fun _ => 0)) ∧ h' 29 = .inl (0, 9000, .inl (fun _ => 0)) ∧ h' 30 = .inl (2, 9000, .inr (.inl (fun _ => 0))) ∧ ∀ i, i < 24 → h' i = h i)) := by
  refine x_Mt.of (by decide) (Nat.le_of_ble_eq_true rfl) ?_
  show x_W E M_TS_init _ _ 25 h 0 [(0, .ref 24)] [] 0 0
  refine x_aload_n d_TS_init_0 rfl rfl ?_
  refine x_objInit d_TS_init_1 (x_mem 824 (by decide +kernel) (by decide +kernel)) (x_mem 97 (by decide +kernel) (by decide +kernel)) (x_mem 98 (by decide +kernel) (by decide +kernel)) (Nat.le_of_ble_eq_true rfl) (Nat.le_of_ble_eq_true rfl) (Nat.le_of_ble_eq_true rfl) ?_
  refine x_aload_n d_TS_init_4 rfl rfl ?_
  refine x_sipush 9000 d_TS_init_5 (by decide) ?_
  refine x_newaI 9000 d_TS_init_8 htg (by decide) (by decide) (by decide) (Nat.le_of_ble_eq_true rfl) (Nat.le_of_ble_eq_true rfl) (Nat.le_of_ble_eq_true rfl) ?_
  refine x_putF (k := 0) (ty := (.array .int)) d_TS_init_10 rfl "TermReaderModel$Terms" F_TS 8 t_TS c_TS (by decide) rfl rfl rfl (x_mem 825 (by decide +kernel) (by decide +kernel)) (Nat.le_of_ble_eq_true rfl) (Nat.le_of_ble_eq_true rfl) (by first | rfl | assumption) (by rfl) (by rfl) (by exact (Nat.le_of_ble_eq_true rfl)) ?_
  refine x_aload_n d_TS_init_13 rfl rfl ?_
  refine x_sipush 9000 d_TS_init_14 (by decide) ?_
  refine x_newaI 9000 d_TS_init_17 htg (by decide) (by decide) (by decide) (Nat.le_of_ble_eq_true rfl) (Nat.le_of_ble_eq_true rfl) (Nat.le_of_ble_eq_true rfl) ?_
  refine x_putF (k := 1) (ty := (.array .int)) d_TS_init_19 rfl "TermReaderModel$Terms" F_TS 8 t_TS c_TS (by decide) rfl rfl rfl (x_mem 827 (by decide +kernel) (by decide +kernel)) (Nat.le_of_ble_eq_true rfl) (Nat.le_of_ble_eq_true rfl) (by first | rfl | assumption) (by rfl) (by rfl) (by exact (Nat.le_of_ble_eq_true rfl)) ?_
  refine x_aload_n d_TS_init_22 rfl rfl ?_
  refine x_sipush 9000 d_TS_init_23 (by decide) ?_
  refine x_newaI 9000 d_TS_init_26 htg (by decide) (by decide) (by decide) (Nat.le_of_ble_eq_true rfl) (Nat.le_of_ble_eq_true rfl) (Nat.le_of_ble_eq_true rfl) ?_
  refine x_putF (k := 2) (ty := (.array .int)) d_TS_init_28 rfl "TermReaderModel$Terms" F_TS 8 t_TS c_TS (by decide) rfl rfl rfl (x_mem 829 (by decide +kernel) (by decide +kernel)) (Nat.le_of_ble_eq_true rfl) (Nat.le_of_ble_eq_true rfl) (by first | rfl | assumption) (by rfl) (by rfl) (by exact (Nat.le_of_ble_eq_true rfl)) ?_
  refine x_aload_n d_TS_init_31 rfl rfl ?_
  refine x_sipush 9000 d_TS_init_32 (by decide) ?_
  refine x_newaI 9000 d_TS_init_35 htg (by decide) (by decide) (by decide) (Nat.le_of_ble_eq_true rfl) (Nat.le_of_ble_eq_true rfl) (Nat.le_of_ble_eq_true rfl) ?_
  refine x_putF (k := 3) (ty := (.array .int)) d_TS_init_37 rfl "TermReaderModel$Terms" F_TS 8 t_TS c_TS (by decide) rfl rfl rfl (x_mem 830 (by decide +kernel) (by decide +kernel)) (Nat.le_of_ble_eq_true rfl) (Nat.le_of_ble_eq_true rfl) (by first | rfl | assumption) (by rfl) (by rfl) (by exact (Nat.le_of_ble_eq_true rfl)) ?_
  refine x_aload_n d_TS_init_40 rfl rfl ?_
  refine x_sipush 9000 d_TS_init_41 (by decide) ?_
  refine x_newaI 9000 d_TS_init_44 htg (by decide) (by decide) (by decide) (Nat.le_of_ble_eq_true rfl) (Nat.le_of_ble_eq_true rfl) (Nat.le_of_ble_eq_true rfl) ?_
  refine x_putF (k := 4) (ty := (.array .int)) d_TS_init_46 rfl "TermReaderModel$Terms" F_TS 8 t_TS c_TS (by decide) rfl rfl rfl (x_mem 833 (by decide +kernel) (by decide +kernel)) (Nat.le_of_ble_eq_true rfl) (Nat.le_of_ble_eq_true rfl) (by first | rfl | assumption) (by rfl) (by rfl) (by exact (Nat.le_of_ble_eq_true rfl)) ?_
  refine x_aload_n d_TS_init_49 rfl rfl ?_
  refine x_sipush 9000 d_TS_init_50 (by decide) ?_
  refine x_newaJ 9000 d_TS_init_53 htg (by decide) (by decide) (by decide) (Nat.le_of_ble_eq_true rfl) (Nat.le_of_ble_eq_true rfl) (Nat.le_of_ble_eq_true rfl) ?_
  refine x_putF (k := 5) (ty := (.array .long)) d_TS_init_55 rfl "TermReaderModel$Terms" F_TS 8 t_TS c_TS (by decide) rfl rfl rfl (x_mem 834 (by decide +kernel) (by decide +kernel)) (Nat.le_of_ble_eq_true rfl) (Nat.le_of_ble_eq_true rfl) (by first | rfl | assumption) (by rfl) (by rfl) (by exact (Nat.le_of_ble_eq_true rfl)) ?_
  exact x_return d_TS_init_58 rfl ⟨rfl, rfl, rfl, rfl, rfl, rfl, rfl, rfl, rfl, rfl, rfl, (fun i hi => by repeat' (first | refine (x_up_ne (by omega)).trans ?_ | rfl))⟩
theorem d_NA_init_0 : decode M_NA_init.2.1 0 = .ok (.aload_n 0, 1) := by decide +kernel
theorem d_NA_init_1 : decode M_NA_init.2.1 1 = .ok (.invokespecial 3, 3) := by decide +kernel
theorem d_NA_init_4 : decode M_NA_init.2.1 4 = .ok (.aload_n 0, 1) := by decide +kernel
theorem d_NA_init_5 : decode M_NA_init.2.1 5 = .ok (.sipush 5000, 3) := by decide +kernel
theorem d_NA_init_8 : decode M_NA_init.2.1 8 = .ok (.newarray .byte, 2) := by decide +kernel
theorem d_NA_init_10 : decode M_NA_init.2.1 10 = .ok (.putfield 9, 3) := by decide +kernel
theorem d_NA_init_13 : decode M_NA_init.2.1 13 = .ok (.aload_n 0, 1) := by decide +kernel
theorem d_NA_init_14 : decode M_NA_init.2.1 14 = .ok (.sipush 9001, 3) := by decide +kernel
theorem d_NA_init_17 : decode M_NA_init.2.1 17 = .ok (.newarray .int, 2) := by decide +kernel
theorem d_NA_init_19 : decode M_NA_init.2.1 19 = .ok (.putfield 15, 3) := by decide +kernel
theorem d_NA_init_22 : decode M_NA_init.2.1 22 = .ok (.aload_n 0, 1) := by decide +kernel
theorem d_NA_init_23 : decode M_NA_init.2.1 23 = .ok (.sipush 9000, 3) := by decide +kernel
theorem d_NA_init_26 : decode M_NA_init.2.1 26 = .ok (.newarray .int, 2) := by decide +kernel
theorem d_NA_init_28 : decode M_NA_init.2.1 28 = .ok (.putfield 19, 3) := by decide +kernel
theorem d_NA_init_31 : decode M_NA_init.2.1 31 = .ok (.aload_n 0, 1) := by decide +kernel
theorem d_NA_init_32 : decode M_NA_init.2.1 32 = .ok (.sipush 1024, 3) := by decide +kernel
theorem d_NA_init_35 : decode M_NA_init.2.1 35 = .ok (.newarray .int, 2) := by decide +kernel
theorem d_NA_init_37 : decode M_NA_init.2.1 37 = .ok (.putfield 22, 3) := by decide +kernel
theorem d_NA_init_40 : decode M_NA_init.2.1 40 = .ok (.return_, 1) := by decide +kernel
set_option maxRecDepth 20000 in
theorem w_NA_init {E : xR} {h : xH} (htg : x_tg E) (ho : h 31 = .inr (7, [.null, .null, .null, .null, .int 0, .int 0])) : x_Mt E M_NA_init 1 4 24025 [.ref 31] 32 h (x_IN 36 4 24025 (fun h' => h' 31 = .inr (7, [.ref 32, .ref 33, .ref 34, .ref 35, .int 0, .int 0]) ∧ h' 32 = .inl (1, 5000, .inl (fun _ => 0)) ∧ h' 33 = .inl (0, 9001, .inl (fun _ => 0)) ∧ h' 34 = .inl (0, 9000, .inl (fun _ => 0)) ∧ h' 35 = .inl (0, 1024, .inl (fun _ => 0)) ∧ ∀ i, i < 31 → h' i = h i)) := by
  refine x_Mt.of (by decide) (Nat.le_of_ble_eq_true rfl) ?_
  show x_W E M_NA_init _ _ 32 h 0 [(0, .ref 31)] [] 0 0
  refine x_aload_n d_NA_init_0 rfl rfl ?_
  refine x_objInit d_NA_init_1 (x_mem 864 (by decide +kernel) (by decide +kernel)) (x_mem 97 (by decide +kernel) (by decide +kernel)) (x_mem 98 (by decide +kernel) (by decide +kernel)) (Nat.le_of_ble_eq_true rfl) (Nat.le_of_ble_eq_true rfl) (Nat.le_of_ble_eq_true rfl) ?_
  refine x_aload_n d_NA_init_4 rfl rfl ?_
  refine x_sipush 5000 d_NA_init_5 (by decide) ?_
  refine x_newaB 5000 d_NA_init_8 htg (by decide) (by decide) (by decide) (Nat.le_of_ble_eq_true rfl) (Nat.le_of_ble_eq_true rfl) (Nat.le_of_ble_eq_true rfl) ?_
  refine x_putF (k := 0) (ty := (.array .byte)) d_NA_init_10 rfl "TermReaderModel$Names" F_NA 6 t_NA c_NA (by decide) rfl rfl rfl (x_mem 865 (by decide +kernel) (by decide +kernel)) (Nat.le_of_ble_eq_true rfl) (Nat.le_of_ble_eq_true rfl) (by first | rfl | assumption) (by rfl) (by rfl) (by exact (Nat.le_of_ble_eq_true rfl)) ?_
  refine x_aload_n d_NA_init_13 rfl rfl ?_
  refine x_sipush 9001 d_NA_init_14 (by decide) ?_
  refine x_newaI 9001 d_NA_init_17 htg (by decide) (by decide) (by decide) (Nat.le_of_ble_eq_true rfl) (Nat.le_of_ble_eq_true rfl) (Nat.le_of_ble_eq_true rfl) ?_
  refine x_putF (k := 1) (ty := (.array .int)) d_NA_init_19 rfl "TermReaderModel$Names" F_NA 6 t_NA c_NA (by decide) rfl rfl rfl (x_mem 866 (by decide +kernel) (by decide +kernel)) (Nat.le_of_ble_eq_true rfl) (Nat.le_of_ble_eq_true rfl) (by first | rfl | assumption) (by rfl) (by rfl) (by exact (Nat.le_of_ble_eq_true rfl)) ?_
  refine x_aload_n d_NA_init_22 rfl rfl ?_
  refine x_sipush 9000 d_NA_init_23 (by decide) ?_
  refine x_newaI 9000 d_NA_init_26 htg (by decide) (by decide) (by decide) (Nat.le_of_ble_eq_true rfl) (Nat.le_of_ble_eq_true rfl) (Nat.le_of_ble_eq_true rfl) ?_
  refine x_putF (k := 2) (ty := (.array .int)) d_NA_init_28 rfl "TermReaderModel$Names" F_NA 6 t_NA c_NA (by decide) rfl rfl rfl (x_mem 867 (by decide +kernel) (by decide +kernel)) (Nat.le_of_ble_eq_true rfl) (Nat.le_of_ble_eq_true rfl) (by first | rfl | assumption) (by rfl) (by rfl) (by exact (Nat.le_of_ble_eq_true rfl)) ?_
  refine x_aload_n d_NA_init_31 rfl rfl ?_
  refine x_sipush 1024 d_NA_init_32 (by decide) ?_
  refine x_newaI 1024 d_NA_init_35 htg (by decide) (by decide) (by decide) (Nat.le_of_ble_eq_true rfl) (Nat.le_of_ble_eq_true rfl) (Nat.le_of_ble_eq_true rfl) ?_
  refine x_putF (k := 3) (ty := (.array .int)) d_NA_init_37 rfl "TermReaderModel$Names" F_NA 6 t_NA c_NA (by decide) rfl rfl rfl (x_mem 868 (by decide +kernel) (by decide +kernel)) (Nat.le_of_ble_eq_true rfl) (Nat.le_of_ble_eq_true rfl) (by first | rfl | assumption) (by rfl) (by rfl) (by exact (Nat.le_of_ble_eq_true rfl)) ?_
  exact x_return d_NA_init_40 rfl ⟨rfl, rfl, rfl, rfl, rfl, rfl, rfl, rfl, rfl, (fun i hi => by repeat' (first | refine (x_up_ne (by omega)).trans ?_ | rfl))⟩
theorem d_PP_init_0 : decode M_PP_init.2.1 0 = .ok (.aload_n 0, 1) := by decide +kernel
theorem d_PP_init_1 : decode M_PP_init.2.1 1 = .ok (.invokespecial 3, 3) := by decide +kernel
theorem d_PP_init_4 : decode M_PP_init.2.1 4 = .ok (.aload_n 0, 1) := by decide +kernel
theorem d_PP_init_5 : decode M_PP_init.2.1 5 = .ok (.sipush 4096, 3) := by decide +kernel
theorem d_PP_init_8 : decode M_PP_init.2.1 8 = .ok (.newarray .byte, 2) := by decide +kernel
theorem d_PP_init_10 : decode M_PP_init.2.1 10 = .ok (.putfield 9, 3) := by decide +kernel
theorem d_PP_init_13 : decode M_PP_init.2.1 13 = .ok (.aload_n 0, 1) := by decide +kernel
theorem d_PP_init_14 : decode M_PP_init.2.1 14 = .ok (.sipush 9000, 3) := by decide +kernel
theorem d_PP_init_17 : decode M_PP_init.2.1 17 = .ok (.newarray .int, 2) := by decide +kernel
theorem d_PP_init_19 : decode M_PP_init.2.1 19 = .ok (.putfield 15, 3) := by decide +kernel
theorem d_PP_init_22 : decode M_PP_init.2.1 22 = .ok (.aload_n 0, 1) := by decide +kernel
theorem d_PP_init_23 : decode M_PP_init.2.1 23 = .ok (.sipush 9000, 3) := by decide +kernel
theorem d_PP_init_26 : decode M_PP_init.2.1 26 = .ok (.newarray .int, 2) := by decide +kernel
theorem d_PP_init_28 : decode M_PP_init.2.1 28 = .ok (.putfield 19, 3) := by decide +kernel
theorem d_PP_init_31 : decode M_PP_init.2.1 31 = .ok (.aload_n 0, 1) := by decide +kernel
theorem d_PP_init_32 : decode M_PP_init.2.1 32 = .ok (.sipush 4200, 3) := by decide +kernel
theorem d_PP_init_35 : decode M_PP_init.2.1 35 = .ok (.newarray .int, 2) := by decide +kernel
theorem d_PP_init_37 : decode M_PP_init.2.1 37 = .ok (.putfield 22, 3) := by decide +kernel
theorem d_PP_init_40 : decode M_PP_init.2.1 40 = .ok (.return_, 1) := by decide +kernel
set_option maxRecDepth 20000 in
theorem w_PP_init {E : xR} {h : xH} (htg : x_tg E) (ho : h 44 = .inr (9, [.null, .null, .null, .null, .int 0, .int 0, .int 0])) : x_Mt E M_PP_init 1 4 26296 [.ref 44] 45 h (x_IN 49 4 26296 (fun h' => h' 44 = .inr (9, [.ref 45, .ref 46, .ref 47, .ref 48, .int 0, .int 0, .int 0]) ∧ h' 45 = .inl (1, 4096, .inl (fun _ => 0)) ∧ h' 46 = .inl (0, 9000, .inl (fun _ => 0)) ∧ h' 47 = .inl (0, 9000, .inl (fun _ => 0)) ∧ h' 48 = .inl (0, 4200, .inl (fun _ => 0)) ∧ ∀ i, i < 44 → h' i = h i)) := by
  refine x_Mt.of (by decide) (Nat.le_of_ble_eq_true rfl) ?_
  show x_W E M_PP_init _ _ 45 h 0 [(0, .ref 44)] [] 0 0
  refine x_aload_n d_PP_init_0 rfl rfl ?_
  refine x_objInit d_PP_init_1 (x_mem 1006 (by decide +kernel) (by decide +kernel)) (x_mem 97 (by decide +kernel) (by decide +kernel)) (x_mem 98 (by decide +kernel) (by decide +kernel)) (Nat.le_of_ble_eq_true rfl) (Nat.le_of_ble_eq_true rfl) (Nat.le_of_ble_eq_true rfl) ?_
  refine x_aload_n d_PP_init_4 rfl rfl ?_
  refine x_sipush 4096 d_PP_init_5 (by decide) ?_
  refine x_newaB 4096 d_PP_init_8 htg (by decide) (by decide) (by decide) (Nat.le_of_ble_eq_true rfl) (Nat.le_of_ble_eq_true rfl) (Nat.le_of_ble_eq_true rfl) ?_
  refine x_putF (k := 0) (ty := (.array .byte)) d_PP_init_10 rfl "TermReaderModel$Paper" F_PP 7 t_PP c_PP (by decide) rfl rfl rfl (x_mem 1007 (by decide +kernel) (by decide +kernel)) (Nat.le_of_ble_eq_true rfl) (Nat.le_of_ble_eq_true rfl) (by first | rfl | assumption) (by rfl) (by rfl) (by exact (Nat.le_of_ble_eq_true rfl)) ?_
  refine x_aload_n d_PP_init_13 rfl rfl ?_
  refine x_sipush 9000 d_PP_init_14 (by decide) ?_
  refine x_newaI 9000 d_PP_init_17 htg (by decide) (by decide) (by decide) (Nat.le_of_ble_eq_true rfl) (Nat.le_of_ble_eq_true rfl) (Nat.le_of_ble_eq_true rfl) ?_
  refine x_putF (k := 1) (ty := (.array .int)) d_PP_init_19 rfl "TermReaderModel$Paper" F_PP 7 t_PP c_PP (by decide) rfl rfl rfl (x_mem 1009 (by decide +kernel) (by decide +kernel)) (Nat.le_of_ble_eq_true rfl) (Nat.le_of_ble_eq_true rfl) (by first | rfl | assumption) (by rfl) (by rfl) (by exact (Nat.le_of_ble_eq_true rfl)) ?_
  refine x_aload_n d_PP_init_22 rfl rfl ?_
  refine x_sipush 9000 d_PP_init_23 (by decide) ?_
  refine x_newaI 9000 d_PP_init_26 htg (by decide) (by decide) (by decide) (Nat.le_of_ble_eq_true rfl) (Nat.le_of_ble_eq_true rfl) (Nat.le_of_ble_eq_true rfl) ?_
  refine x_putF (k := 2) (ty := (.array .int)) d_PP_init_28 rfl "TermReaderModel$Paper" F_PP 7 t_PP c_PP (by decide) rfl rfl rfl (x_mem 1010 (by decide +kernel) (by decide +kernel)) (Nat.le_of_ble_eq_true rfl) (Nat.le_of_ble_eq_true rfl) (by first | rfl | assumption) (by rfl) (by rfl) (by exact (Nat.le_of_ble_eq_true rfl)) ?_
  refine x_aload_n d_PP_init_31 rfl rfl ?_
  refine x_sipush 4200 d_PP_init_32 (by decide) ?_
  refine x_newaI 4200 d_PP_init_35 htg (by decide) (by decide) (by decide) (Nat.le_of_ble_eq_true rfl) (Nat.le_of_ble_eq_true rfl) (Nat.le_of_ble_eq_true rfl) ?_
  refine x_putF (k := 3) (ty := (.array .int)) d_PP_init_37 rfl "TermReaderModel$Paper" F_PP 7 t_PP c_PP (by decide) rfl rfl rfl (x_mem 1011 (by decide +kernel) (by decide +kernel)) (Nat.le_of_ble_eq_true rfl) (Nat.le_of_ble_eq_true rfl) (by first | rfl | assumption) (by rfl) (by rfl) (by exact (Nat.le_of_ble_eq_true rfl)) ?_
  exact x_return d_PP_init_40 rfl ⟨rfl, rfl, rfl, rfl, rfl, rfl, rfl, rfl, rfl, (fun i hi => by repeat' (first | refine (x_up_ne (by omega)).trans ?_ | rfl))⟩
