/-- the number of the variable with the text of row y; -1: none -/
def g_knF (u : Nat → Nat) (A : Nat → Nat → Int32) (y : Nat) : Nat → Nat → Int32
  | 0, _ => -1
  | m + 1, i => bif g_smA u A (g_uN A i) y then nI i else g_knF u A y m (i + 1)
theorem d_TE_knownVariable_0 : decode M_TE_knownVariable.2.1 0 = .ok (.iconst 0, 1) := by decide +kernel
theorem d_TE_knownVariable_1 : decode M_TE_knownVariable.2.1 1 = .ok (.istore_n 2, 1) := by decide +kernel
theorem d_TE_knownVariable_2 : decode M_TE_knownVariable.2.1 2 = .ok (.iload_n 2, 1) := by decide +kernel
theorem d_TE_knownVariable_3 : decode M_TE_knownVariable.2.1 3 = .ok (.aload_n 0, 1) := by decide +kernel
theorem d_TE_knownVariable_4 : decode M_TE_knownVariable.2.1 4 = .ok (.getfield 44, 3) := by decide +kernel
theorem d_TE_knownVariable_7 : decode M_TE_knownVariable.2.1 7 = .ok (.if_icmp .ge 25, 3) := by decide +kernel
theorem d_TE_knownVariable_10 : decode M_TE_knownVariable.2.1 10 = .ok (.aload_n 0, 1) := by decide +kernel
theorem d_TE_knownVariable_11 : decode M_TE_knownVariable.2.1 11 = .ok (.aload_n 0, 1) := by decide +kernel
theorem d_TE_knownVariable_12 : decode M_TE_knownVariable.2.1 12 = .ok (.getfield 33, 3) := by decide +kernel
theorem d_TE_knownVariable_15 : decode M_TE_knownVariable.2.1 15 = .ok (.iload_n 2, 1) := by decide +kernel
theorem d_TE_knownVariable_16 : decode M_TE_knownVariable.2.1 16 = .ok (.iaload, 1) := by decide +kernel
theorem d_TE_knownVariable_17 : decode M_TE_knownVariable.2.1 17 = .ok (.iload_n 1, 1) := by decide +kernel
theorem d_TE_knownVariable_18 : decode M_TE_knownVariable.2.1 18 = .ok (.invokevirtual 64, 3) := by decide +kernel
theorem d_TE_knownVariable_21 : decode M_TE_knownVariable.2.1 21 = .ok (.ifCond .eq 5, 3) := by decide +kernel
theorem d_TE_knownVariable_24 : decode M_TE_knownVariable.2.1 24 = .ok (.iload_n 2, 1) := by decide +kernel
theorem d_TE_knownVariable_25 : decode M_TE_knownVariable.2.1 25 = .ok (.ireturn, 1) := by decide +kernel
theorem d_TE_knownVariable_26 : decode M_TE_knownVariable.2.1 26 = .ok (.iinc 2 1, 3) := by decide +kernel
theorem d_TE_knownVariable_29 : decode M_TE_knownVariable.2.1 29 = .ok (.goto (-27), 3) := by decide +kernel
theorem d_TE_knownVariable_32 : decode M_TE_knownVariable.2.1 32 = .ok (.iconst (-1), 1) := by decide +kernel
theorem d_TE_knownVariable_33 : decode M_TE_knownVariable.2.1 33 = .ok (.ireturn, 1) := by decide +kernel
set_option maxRecDepth 20000 in
theorem w_TE_knownVariable {E : xR} {h : xH} {A : Nat → Nat → Int32} {u : Nat → Nat} {s r : Int32} {y w : Nat} (h1 : h 1 = .inl (1, 4096, .inl (fun i => g_sb (u i)))) (ok : g_okA A) (hy : y < 1001) (hw : w ≤ 1000) : x_Mt E M_TE_knownVariable 1 0 0 [.ref 5, .int (nI y)] 52 (g_tw h s (nI w) r A) (x_Y (some (.int (g_knF u A y w 0))) 52 (g_tw h s (nI w) r A)) := by
  refine x_Mt.of (by decide) (Nat.le_of_ble_eq_true rfl) ?_
  have hloop : ∀ m i, i + m = w → (g_knF u A y w 0) = g_knF u A y m i → x_W E M_TE_knownVariable (x_room 1 0 0) (x_Y (some (.int (g_knF u A y w 0))) 52 (g_tw h s (nI w) r A)) 52 (g_tw h s (nI w) r A) 2 [(0, .ref 5), (1, .int (nI y)), (2, .int (nI i))] [] 0 0 := by
    intro m
    induction m with
    | zero =>
      intro i hi hg
      obtain rfl : i = w := by omega
      refine x_iload_n d_TE_knownVariable_2 rfl rfl ?_
      refine x_aload_n d_TE_knownVariable_3 rfl rfl ?_
      refine x_get d_TE_knownVariable_4 f_TE_44 (Nat.le_of_ble_eq_true rfl) (Nat.le_of_ble_eq_true rfl) (by first | rfl | assumption) (by rfl) ?_
      refine x_icmp_ge 32 d_TE_knownVariable_7 (by decide) (fun _ => ?_) (fun z => absurd (nI_le (Nat.le_refl _) (by omega)) z)
      refine x_iconst (-1) d_TE_knownVariable_32 (by decide) ?_
      exact x_ireturn d_TE_knownVariable_33 rfl rfl ⟨congrArg (fun z => Sum.inl (some (Value.int z))) (show (-1 : Int32) = (g_knF u A y i 0) from hg.symm), rfl, fun _ _ => rfl, rfl, rfl⟩
    | succ m ih =>
      intro i hi hg
      obtain ⟨ui, ul⟩ := ok.2 i (by omega)
      rw [g_knF] at hg
      refine x_iload_n d_TE_knownVariable_2 rfl rfl ?_
      refine x_aload_n d_TE_knownVariable_3 rfl rfl ?_
      refine x_get d_TE_knownVariable_4 f_TE_44 (Nat.le_of_ble_eq_true rfl) (Nat.le_of_ble_eq_true rfl) (by first | rfl | assumption) (by rfl) ?_
      refine x_icmp_ge 32 d_TE_knownVariable_7 (by decide) (fun z => absurd z (nI_ge (by omega) (by omega))) (fun _ => ?_)
      refine x_aload_n d_TE_knownVariable_10 rfl rfl ?_
      refine x_aload_n d_TE_knownVariable_11 rfl rfl ?_
      refine x_get d_TE_knownVariable_12 f_TE_33 (Nat.le_of_ble_eq_true rfl) (Nat.le_of_ble_eq_true rfl) (by first | rfl | assumption) (by rfl) ?_
      refine x_iload_n d_TE_knownVariable_15 rfl rfl ?_
      refine x_iald d_TE_knownVariable_16 (Nat.le_of_ble_eq_true rfl) (Nat.le_of_ble_eq_true rfl) (by first | rfl | assumption) (vp_in_nI (show i < 1001 by omega) (by decide)) ?_
      refine x_topi (nI (g_uN A i)) (by rw [nI_clamp (by omega)]; exact ui) ?_
      refine x_iload_n d_TE_knownVariable_17 rfl rfl ?_
      refine x_callV2Y d_TE_knownVariable_18 k_TE_64 (Nat.le_of_ble_eq_true rfl) (Nat.le_of_ble_eq_true rfl) (by first | rfl | assumption) (by rfl) (w_TE_sameText (by first | rfl | assumption) ok ul hy) (Nat.le_of_ble_eq_true rfl) (Nat.le_of_ble_eq_true rfl) (Nat.le_of_ble_eq_true rfl) (Nat.le_of_ble_eq_true rfl) (Nat.le_of_ble_eq_true rfl) rfl ?_
      refine x_if_eq 26 d_TE_knownVariable_21 (by decide) (fun c_21 => ?_) (fun c_21 => ?_)
      · refine x_iinc d_TE_knownVariable_26 rfl 1 (by decide) (Nat.le_of_ble_eq_true rfl) ?_
        refine x_goto 2 d_TE_knownVariable_29 (by decide) ?_
        refine x_lv [(0, .ref 5), (1, .int (nI y)), (2, .int (nI (i + 1)))] (by rw [nI_succ i]; rfl) ?_
        exact ih (i + 1) (by omega) (by rw [hg, g_b2z c_21]; rfl)
      · refine x_iload_n d_TE_knownVariable_24 rfl rfl ?_
        exact x_ireturn d_TE_knownVariable_25 rfl rfl ⟨congrArg (fun z => Sum.inl (some (Value.int z))) (show (nI i : Int32) = (g_knF u A y w 0) from (by rw [hg, g_b2n c_21]; rfl)), rfl, fun _ _ => rfl, rfl, rfl⟩
  show x_W E M_TE_knownVariable _ _ 52 (g_tw h s (nI w) r A) 0 [(0, .ref 5), (1, .int (nI y))] [] 0 0
  refine x_iconst 0 d_TE_knownVariable_0 (by decide) ?_
  refine x_istore_n d_TE_knownVariable_1 rfl (Nat.le_of_ble_eq_true rfl) ?_
  exact hloop w 0 (Nat.zero_add _) rfl
/-- a nameless variable -/
def g_nl (u : Nat → Nat) (f t : Nat) : Bool := decide (t - f = 1) && decide (u f = 95)
/-- what addVariable makes of the arrays and of the count w -/
def g_kn (u : Nat → Nat) (A : Nat → Nat → Int32) (s w f t : Nat) : Int32 := bif g_nl u f t then -1 else g_knF u (g_addA A (g_nod s) 0 (nI f) (nI t)) (g_nod s) w 0
def g_avA (u : Nat → Nat) (A : Nat → Nat → Int32) (s w f t : Nat) : Nat → Nat → Int32 := bif decide (g_kn u A s w f t = -1) then (bif decide (w < 1000) then g_ar (g_ar (g_addA A (g_nod s) 0 (nI f) (nI t)) 7 w (nI (g_nod s))) 6 (g_nod s) (nI w) else g_addA A (g_nod s) 0 (nI f) (nI t)) else g_ar (g_addA A (g_nod s) 0 (nI f) (nI t)) 6 (g_nod s) (g_kn u A s w f t)
def g_avW (u : Nat → Nat) (A : Nat → Nat → Int32) (s w f t : Nat) : Nat := bif decide (g_kn u A s w f t = -1) && decide (w < 1000) then w + 1 else w
theorem g_updN {f : Nat → Int32} {k x : Nat} {v : Int32} (h : x ≠ k) : upd f k v x = f x := by unfold upd; rw [if_neg h]
theorem g_updY {f : Nat → Int32} {k : Nat} {v : Int32} : upd f k v k = v := by unfold upd; rw [if_pos rfl]
theorem g_okadd {A : Nat → Nat → Int32} (ok : g_okA A) {i f t : Nat} (k : Int32) (hf : f ≤ t) (ht : t ≤ 4096) : g_okA (g_addA A i k (nI f) (nI t)) := by
  refine ⟨fun x hx => ?_, ok.2⟩
  show upd (A 1) i (nI f) x = nI (upd (A 1) i (nI f) x).toNatClampNeg ∧ upd (A 2) i (nI t) x = nI (upd (A 2) i (nI t) x).toNatClampNeg ∧ (upd (A 1) i (nI f) x).toNatClampNeg ≤ (upd (A 2) i (nI t) x).toNatClampNeg ∧ (upd (A 2) i (nI t) x).toNatClampNeg ≤ 4096
  by_cases e : x = i
  · subst e
    rw [g_updY, g_updY, nI_clamp (by omega), nI_clamp (by omega)]
    exact ⟨rfl, rfl, hf, ht⟩
  · rw [g_updN e, g_updN e]
    exact ok.1 x hx
theorem g_sb95 : ∀ v, v < 256 → (g_sb v = 95 ↔ v = 95) := by decide +kernel
theorem d_TE_addVariable_0 : decode M_TE_addVariable.2.1 0 = .ok (.aload_n 0, 1) := by decide +kernel
theorem d_TE_addVariable_1 : decode M_TE_addVariable.2.1 1 = .ok (.iconst 0, 1) := by decide +kernel
theorem d_TE_addVariable_2 : decode M_TE_addVariable.2.1 2 = .ok (.iload_n 1, 1) := by decide +kernel
theorem d_TE_addVariable_3 : decode M_TE_addVariable.2.1 3 = .ok (.iload_n 2, 1) := by decide +kernel
theorem d_TE_addVariable_4 : decode M_TE_addVariable.2.1 4 = .ok (.invokevirtual 56, 3) := by decide +kernel
theorem d_TE_addVariable_7 : decode M_TE_addVariable.2.1 7 = .ok (.istore_n 3, 1) := by decide +kernel
theorem d_TE_addVariable_8 : decode M_TE_addVariable.2.1 8 = .ok (.iload_n 2, 1) := by decide +kernel
theorem d_TE_addVariable_9 : decode M_TE_addVariable.2.1 9 = .ok (.iload_n 1, 1) := by decide +kernel
theorem d_TE_addVariable_10 : decode M_TE_addVariable.2.1 10 = .ok (.isub, 1) := by decide +kernel
theorem d_TE_addVariable_11 : decode M_TE_addVariable.2.1 11 = .ok (.iconst 1, 1) := by decide +kernel
theorem d_TE_addVariable_12 : decode M_TE_addVariable.2.1 12 = .ok (.if_icmp .ne 18, 3) := by decide +kernel
theorem d_TE_addVariable_15 : decode M_TE_addVariable.2.1 15 = .ok (.aload_n 0, 1) := by decide +kernel
theorem d_TE_addVariable_16 : decode M_TE_addVariable.2.1 16 = .ok (.getfield 36, 3) := by decide +kernel
theorem d_TE_addVariable_19 : decode M_TE_addVariable.2.1 19 = .ok (.iload_n 1, 1) := by decide +kernel
theorem d_TE_addVariable_20 : decode M_TE_addVariable.2.1 20 = .ok (.baload, 1) := by decide +kernel
theorem d_TE_addVariable_21 : decode M_TE_addVariable.2.1 21 = .ok (.bipush 95, 2) := by decide +kernel
theorem d_TE_addVariable_23 : decode M_TE_addVariable.2.1 23 = .ok (.if_icmp .ne 7, 3) := by decide +kernel
theorem d_TE_addVariable_26 : decode M_TE_addVariable.2.1 26 = .ok (.iconst 1, 1) := by decide +kernel
theorem d_TE_addVariable_27 : decode M_TE_addVariable.2.1 27 = .ok (.goto 4, 3) := by decide +kernel
theorem d_TE_addVariable_30 : decode M_TE_addVariable.2.1 30 = .ok (.iconst 0, 1) := by decide +kernel
theorem d_TE_addVariable_31 : decode M_TE_addVariable.2.1 31 = .ok (.istore 4, 2) := by decide +kernel
theorem d_TE_addVariable_33 : decode M_TE_addVariable.2.1 33 = .ok (.iload 4, 2) := by decide +kernel
theorem d_TE_addVariable_35 : decode M_TE_addVariable.2.1 35 = .ok (.ifCond .eq 7, 3) := by decide +kernel
theorem d_TE_addVariable_38 : decode M_TE_addVariable.2.1 38 = .ok (.iconst (-1), 1) := by decide +kernel
theorem d_TE_addVariable_39 : decode M_TE_addVariable.2.1 39 = .ok (.goto 8, 3) := by decide +kernel
theorem d_TE_addVariable_42 : decode M_TE_addVariable.2.1 42 = .ok (.aload_n 0, 1) := by decide +kernel
theorem d_TE_addVariable_43 : decode M_TE_addVariable.2.1 43 = .ok (.iload_n 3, 1) := by decide +kernel
theorem d_TE_addVariable_44 : decode M_TE_addVariable.2.1 44 = .ok (.invokevirtual 60, 3) := by decide +kernel
theorem d_TE_addVariable_47 : decode M_TE_addVariable.2.1 47 = .ok (.istore 5, 2) := by decide +kernel
theorem d_TE_addVariable_49 : decode M_TE_addVariable.2.1 49 = .ok (.iload 5, 2) := by decide +kernel
theorem d_TE_addVariable_51 : decode M_TE_addVariable.2.1 51 = .ok (.iconst (-1), 1) := by decide +kernel
theorem d_TE_addVariable_52 : decode M_TE_addVariable.2.1 52 = .ok (.if_icmp .eq 14, 3) := by decide +kernel
theorem d_TE_addVariable_55 : decode M_TE_addVariable.2.1 55 = .ok (.aload_n 0, 1) := by decide +kernel
theorem d_TE_addVariable_56 : decode M_TE_addVariable.2.1 56 = .ok (.getfield 30, 3) := by decide +kernel
theorem d_TE_addVariable_59 : decode M_TE_addVariable.2.1 59 = .ok (.iload_n 3, 1) := by decide +kernel
theorem d_TE_addVariable_60 : decode M_TE_addVariable.2.1 60 = .ok (.iload 5, 2) := by decide +kernel
theorem d_TE_addVariable_62 : decode M_TE_addVariable.2.1 62 = .ok (.iastore, 1) := by decide +kernel
theorem d_TE_addVariable_63 : decode M_TE_addVariable.2.1 63 = .ok (.goto 43, 3) := by decide +kernel
theorem d_TE_addVariable_66 : decode M_TE_addVariable.2.1 66 = .ok (.aload_n 0, 1) := by decide +kernel
theorem d_TE_addVariable_67 : decode M_TE_addVariable.2.1 67 = .ok (.getfield 44, 3) := by decide +kernel
theorem d_TE_addVariable_70 : decode M_TE_addVariable.2.1 70 = .ok (.sipush 1000, 3) := by decide +kernel
theorem d_TE_addVariable_73 : decode M_TE_addVariable.2.1 73 = .ok (.if_icmp .ge 33, 3) := by decide +kernel
theorem d_TE_addVariable_76 : decode M_TE_addVariable.2.1 76 = .ok (.aload_n 0, 1) := by decide +kernel
theorem d_TE_addVariable_77 : decode M_TE_addVariable.2.1 77 = .ok (.getfield 33, 3) := by decide +kernel
theorem d_TE_addVariable_80 : decode M_TE_addVariable.2.1 80 = .ok (.aload_n 0, 1) := by decide +kernel
theorem d_TE_addVariable_81 : decode M_TE_addVariable.2.1 81 = .ok (.getfield 44, 3) := by decide +kernel
theorem d_TE_addVariable_84 : decode M_TE_addVariable.2.1 84 = .ok (.iload_n 3, 1) := by decide +kernel
theorem d_TE_addVariable_85 : decode M_TE_addVariable.2.1 85 = .ok (.iastore, 1) := by decide +kernel
theorem d_TE_addVariable_86 : decode M_TE_addVariable.2.1 86 = .ok (.aload_n 0, 1) := by decide +kernel
theorem d_TE_addVariable_87 : decode M_TE_addVariable.2.1 87 = .ok (.getfield 30, 3) := by decide +kernel
theorem d_TE_addVariable_90 : decode M_TE_addVariable.2.1 90 = .ok (.iload_n 3, 1) := by decide +kernel
theorem d_TE_addVariable_91 : decode M_TE_addVariable.2.1 91 = .ok (.aload_n 0, 1) := by decide +kernel
theorem d_TE_addVariable_92 : decode M_TE_addVariable.2.1 92 = .ok (.getfield 44, 3) := by decide +kernel
theorem d_TE_addVariable_95 : decode M_TE_addVariable.2.1 95 = .ok (.iastore, 1) := by decide +kernel
theorem d_TE_addVariable_96 : decode M_TE_addVariable.2.1 96 = .ok (.aload_n 0, 1) := by decide +kernel
theorem d_TE_addVariable_97 : decode M_TE_addVariable.2.1 97 = .ok (.dup, 1) := by decide +kernel
theorem d_TE_addVariable_98 : decode M_TE_addVariable.2.1 98 = .ok (.getfield 44, 3) := by decide +kernel
theorem d_TE_addVariable_101 : decode M_TE_addVariable.2.1 101 = .ok (.iconst 1, 1) := by decide +kernel
theorem d_TE_addVariable_102 : decode M_TE_addVariable.2.1 102 = .ok (.iadd, 1) := by decide +kernel
theorem d_TE_addVariable_103 : decode M_TE_addVariable.2.1 103 = .ok (.putfield 44, 3) := by decide +kernel
theorem d_TE_addVariable_106 : decode M_TE_addVariable.2.1 106 = .ok (.iload_n 3, 1) := by decide +kernel
theorem d_TE_addVariable_107 : decode M_TE_addVariable.2.1 107 = .ok (.ireturn, 1) := by decide +kernel
set_option maxRecDepth 20000 in
theorem w_TE_addVariable {E : xR} {h : xH} {A : Nat → Nat → Int32} {u : Nat → Nat} {r : Int32} {s w f t : Nat} (h1 : h 1 = .inl (1, 4096, .inl (fun i => g_sb (u i)))) (hu : ∀ i, u i < 256) (ok : g_okA A) (hs : s < 5000) (hw : w ≤ 1000) (hf : f ≤ t) (ht : t ≤ 4096) : x_Mt E M_TE_addVariable 2 0 0 [.ref 5, .int (nI f), .int (nI t)] 52 (g_tw h (nI s) (nI w) r A) (x_Y (some (.int (nI (g_nod s)))) 52 (g_tw h (nI (s + 1)) (nI (g_avW u A s w f t)) r (g_avA u A s w f t))) := by
  have hnd := g_nodL s
  have hcl : (nI (g_nod s)).toNatClampNeg = g_nod s := nI_clamp (by omega)
  have ok1 := g_okadd ok (i := g_nod s) 0 hf ht
  refine x_Mt.of (by decide) (Nat.le_of_ble_eq_true rfl) ?_
  have hkn : ∀ z : Value, x_W E M_TE_addVariable (x_room 2 0 0) (x_Y (some (.int (nI (g_nod s)))) 52 (g_tw h (nI (s + 1)) (nI (g_avW u A s w f t)) r (g_avA u A s w f t))) 52 (g_tw h (nI (s + 1)) (nI w) r (g_addA A (g_nod s) 0 (nI f) (nI t))) 49 [(0, .ref 5), (1, .int (nI f)), (2, .int (nI t)), (3, .int (nI (g_nod s))), (4, z), (5, .int (g_kn u A s w f t))] [] 0 0 := by
    intro z
    refine x_iload d_TE_addVariable_49 rfl ?_
    refine x_iconst (-1) d_TE_addVariable_51 (by decide) ?_
    refine x_icmp_eq 66 d_TE_addVariable_52 (by decide) (fun c_52 => ?_) (fun c_52 => ?_)
    · refine x_aload_n d_TE_addVariable_66 rfl rfl ?_
      refine x_get d_TE_addVariable_67 f_TE_44 (Nat.le_of_ble_eq_true rfl) (Nat.le_of_ble_eq_true rfl) (by first | rfl | assumption) (by rfl) ?_
      refine x_sipush 1000 d_TE_addVariable_70 (by decide) ?_
      refine x_icmp_ge 106 d_TE_addVariable_73 (by decide) (fun c_73 => ?_) (fun c_73 => ?_)
      · have hge : ¬ w < 1000 := fun q => (nI_ge q (by decide)) c_73
        refine x_hh (g_tw h (nI (s + 1)) (nI (g_avW u A s w f t)) r (g_avA u A s w f t)) (by rw [show g_avW u A s w f t = w from by rw [g_avW, decide_eq_true c_52, decide_eq_false hge]; rfl, show g_avA u A s w f t = g_addA A (g_nod s) 0 (nI f) (nI t) from by rw [g_avA, decide_eq_true c_52, decide_eq_false hge]; rfl]) ?_
        refine x_iload_n d_TE_addVariable_106 rfl rfl ?_
        exact x_ireturn d_TE_addVariable_107 rfl rfl ⟨rfl, rfl, fun _ _ => rfl, rfl, rfl⟩
      · refine x_aload_n d_TE_addVariable_76 rfl rfl ?_
        refine x_get d_TE_addVariable_77 f_TE_33 (Nat.le_of_ble_eq_true rfl) (Nat.le_of_ble_eq_true rfl) (by first | rfl | assumption) (by rfl) ?_
        refine x_aload_n d_TE_addVariable_80 rfl rfl ?_
        refine x_get d_TE_addVariable_81 f_TE_44 (Nat.le_of_ble_eq_true rfl) (Nat.le_of_ble_eq_true rfl) (by first | rfl | assumption) (by rfl) ?_
        refine x_iload_n d_TE_addVariable_84 rfl rfl ?_
        refine x_iast d_TE_addVariable_85 (Nat.le_of_ble_eq_true rfl) (Nat.le_of_ble_eq_true rfl) (by first | rfl | assumption) (vp_in_nI (show w < 1001 by omega) (by decide)) ?_
        refine x_aload_n d_TE_addVariable_86 rfl rfl ?_
        refine x_get d_TE_addVariable_87 f_TE_30 (Nat.le_of_ble_eq_true rfl) (Nat.le_of_ble_eq_true rfl) (by first | rfl | assumption) (by rfl) ?_
        refine x_iload_n d_TE_addVariable_90 rfl rfl ?_
        refine x_aload_n d_TE_addVariable_91 rfl rfl ?_
        refine x_get d_TE_addVariable_92 f_TE_44 (Nat.le_of_ble_eq_true rfl) (Nat.le_of_ble_eq_true rfl) (by first | rfl | assumption) (by rfl) ?_
        refine x_iast d_TE_addVariable_95 (Nat.le_of_ble_eq_true rfl) (Nat.le_of_ble_eq_true rfl) (by first | rfl | assumption) (vp_in_nI hnd (by decide)) ?_
        refine x_aload_n d_TE_addVariable_96 rfl rfl ?_
        refine x_dup d_TE_addVariable_97 rfl ?_
        refine x_get d_TE_addVariable_98 f_TE_44 (Nat.le_of_ble_eq_true rfl) (Nat.le_of_ble_eq_true rfl) (by first | rfl | assumption) (by rfl) ?_
        refine x_iconst 1 d_TE_addVariable_101 (by decide) ?_
        refine x_iadd d_TE_addVariable_102 ?_
        refine x_topi (nI (w + 1)) (nI_succ w).symm ?_
        refine x_put d_TE_addVariable_103 f_TE_44 (Nat.le_of_ble_eq_true rfl) (Nat.le_of_ble_eq_true rfl) (by first | rfl | assumption) (by rfl) (by rfl) (by exact (Nat.le_of_ble_eq_true rfl)) ?_
        have hlt : w < 1000 := Nat.not_le.mp fun q => c_73 (nI_le q (by omega))
        have e1 : g_avW u A s w f t = w + 1 := by rw [g_avW, decide_eq_true c_52, decide_eq_true hlt]; rfl
        have e2 : g_avA u A s w f t = g_ar (g_ar (g_addA A (g_nod s) 0 (nI f) (nI t)) 7 w (nI (g_nod s))) 6 (g_nod s) (nI w) := by rw [g_avA, decide_eq_true c_52, decide_eq_true hlt]; rfl
        rw [e1, e2]
        refine x_iload_n d_TE_addVariable_106 rfl rfl ?_
        exact x_ireturn d_TE_addVariable_107 rfl rfl ⟨rfl, rfl, x_pt rfl rfl rfl rfl rfl rfl rfl rfl rfl rfl rfl rfl (show Sum.inl (0, 1001, Sum.inl (upd _ (nI (g_nod s)).toNatClampNeg _)) = _ by rw [nI_clamp (by omega)]; rfl) (show Sum.inl (0, 1001, Sum.inl (upd _ (nI w).toNatClampNeg _)) = _ by rw [nI_clamp (by omega)]; rfl) rfl rfl rfl rfl rfl rfl rfl rfl rfl rfl rfl rfl rfl rfl rfl rfl rfl rfl rfl rfl rfl rfl rfl rfl rfl rfl rfl rfl rfl rfl rfl rfl rfl rfl rfl rfl rfl rfl, rfl, rfl⟩
    · refine x_aload_n d_TE_addVariable_55 rfl rfl ?_
      refine x_get d_TE_addVariable_56 f_TE_30 (Nat.le_of_ble_eq_true rfl) (Nat.le_of_ble_eq_true rfl) (by first | rfl | assumption) (by rfl) ?_
      refine x_iload_n d_TE_addVariable_59 rfl rfl ?_
      refine x_iload d_TE_addVariable_60 rfl ?_
      refine x_iast d_TE_addVariable_62 (Nat.le_of_ble_eq_true rfl) (Nat.le_of_ble_eq_true rfl) (by first | rfl | assumption) (vp_in_nI hnd (by decide)) ?_
      refine x_goto 106 d_TE_addVariable_63 (by decide) ?_
      have e1 : g_avW u A s w f t = w := by rw [g_avW, decide_eq_false c_52]; rfl
      have e2 : g_avA u A s w f t = g_ar (g_addA A (g_nod s) 0 (nI f) (nI t)) 6 (g_nod s) (g_kn u A s w f t) := by rw [g_avA, decide_eq_false c_52]; rfl
      rw [e1, e2]
      refine x_iload_n d_TE_addVariable_106 rfl rfl ?_
      exact x_ireturn d_TE_addVariable_107 rfl rfl ⟨rfl, rfl, x_pt rfl rfl rfl rfl rfl rfl rfl rfl rfl rfl rfl rfl (show Sum.inl (0, 1001, Sum.inl (upd _ (nI (g_nod s)).toNatClampNeg _)) = _ by rw [nI_clamp (by omega)]; rfl) rfl rfl rfl rfl rfl rfl rfl rfl rfl rfl rfl rfl rfl rfl rfl rfl rfl rfl rfl rfl rfl rfl rfl rfl rfl rfl rfl rfl rfl rfl rfl rfl rfl rfl rfl rfl rfl rfl rfl, rfl, rfl⟩
  have hnl : ∀ b : Bool, g_nl u f t = b → x_W E M_TE_addVariable (x_room 2 0 0) (x_Y (some (.int (nI (g_nod s)))) 52 (g_tw h (nI (s + 1)) (nI (g_avW u A s w f t)) r (g_avA u A s w f t))) 52 (g_tw h (nI (s + 1)) (nI w) r (g_addA A (g_nod s) 0 (nI f) (nI t))) 33 [(0, .ref 5), (1, .int (nI f)), (2, .int (nI t)), (3, .int (nI (g_nod s))), (4, .int (g_b2 b))] [] 0 0 := by
    intro b hb
    refine x_iload d_TE_addVariable_33 rfl ?_
    refine x_if_eq 42 d_TE_addVariable_35 (by decide) (fun c_35 => ?_) (fun c_35 => ?_)
    · refine x_aload_n d_TE_addVariable_42 rfl rfl ?_
      refine x_iload_n d_TE_addVariable_43 rfl rfl ?_
      refine x_callV1Y d_TE_addVariable_44 k_TE_60 (Nat.le_of_ble_eq_true rfl) (Nat.le_of_ble_eq_true rfl) (by first | rfl | assumption) (by rfl) (w_TE_knownVariable (by first | rfl | assumption) ok1 hnd hw) (Nat.le_of_ble_eq_true rfl) (Nat.le_of_ble_eq_true rfl) (Nat.le_of_ble_eq_true rfl) (Nat.le_of_ble_eq_true rfl) (Nat.le_of_ble_eq_true rfl) rfl ?_
      refine x_topi (g_kn u A s w f t) (by rw [g_kn, hb, g_b2z c_35]; rfl) ?_
      refine x_istore d_TE_addVariable_47 (Nat.le_of_ble_eq_true rfl) ?_
      exact hkn _
    · refine x_iconst (-1) d_TE_addVariable_38 (by decide) ?_
      refine x_goto 47 d_TE_addVariable_39 (by decide) ?_
      refine x_topi (g_kn u A s w f t) (by rw [g_kn, hb, g_b2n c_35]; rfl) ?_
      refine x_istore d_TE_addVariable_47 (Nat.le_of_ble_eq_true rfl) ?_
      exact hkn _
  show x_W E M_TE_addVariable _ _ 52 (g_tw h (nI s) (nI w) r A) 0 [(0, .ref 5), (1, .int (nI f)), (2, .int (nI t))] [] 0 0
  refine x_aload_n d_TE_addVariable_0 rfl rfl ?_
  refine x_iconst 0 d_TE_addVariable_1 (by decide) ?_
  refine x_iload_n d_TE_addVariable_2 rfl rfl ?_
  refine x_iload_n d_TE_addVariable_3 rfl rfl ?_
  refine x_callV3Y d_TE_addVariable_4 k_TE_56 (Nat.le_of_ble_eq_true rfl) (Nat.le_of_ble_eq_true rfl) (by first | rfl | assumption) (by rfl) (w_TE_add hs) (Nat.le_of_ble_eq_true rfl) (Nat.le_of_ble_eq_true rfl) (Nat.le_of_ble_eq_true rfl) (Nat.le_of_ble_eq_true rfl) (Nat.le_of_ble_eq_true rfl) rfl ?_
  refine x_istore_n d_TE_addVariable_7 rfl (Nat.le_of_ble_eq_true rfl) ?_
  refine x_iload_n d_TE_addVariable_8 rfl rfl ?_
  refine x_iload_n d_TE_addVariable_9 rfl rfl ?_
  refine x_isub d_TE_addVariable_10 ?_
  refine x_topi (nI (t - f)) (g_nIsub hf) ?_
  refine x_iconst 1 d_TE_addVariable_11 (by decide) ?_
  refine x_icmp_ne 30 d_TE_addVariable_12 (by decide) (fun c_12 => ?_) (fun c_12 => ?_)
  · refine x_iconst 0 d_TE_addVariable_30 (by decide) ?_
    refine x_istore d_TE_addVariable_31 (Nat.le_of_ble_eq_true rfl) ?_
    exact hnl false (by rw [g_nl, decide_eq_false (fun q => c_12 (by rw [q]; rfl))]; rfl)
  · have h1f : t - f = 1 := (g_nIne (b := 1) (by omega) (by decide)).mp c_12
    refine x_aload_n d_TE_addVariable_15 rfl rfl ?_
    refine x_get d_TE_addVariable_16 f_TE_36 (Nat.le_of_ble_eq_true rfl) (Nat.le_of_ble_eq_true rfl) (by first | rfl | assumption) (by rfl) ?_
    refine x_iload_n d_TE_addVariable_19 rfl rfl ?_
    refine x_bald d_TE_addVariable_20 (Nat.le_of_ble_eq_true rfl) (Nat.le_of_ble_eq_true rfl) (by first | rfl | assumption) (vp_in_nI (show f < 4096 by omega) (by decide)) ?_
    refine x_topi (g_sb (u f)) (by rw [nI_clamp (by omega)]) ?_
    refine x_bipush 95 d_TE_addVariable_21 (by decide) ?_
    refine x_icmp_ne 30 d_TE_addVariable_23 (by decide) (fun c_23 => ?_) (fun c_23 => ?_)
    · refine x_iconst 0 d_TE_addVariable_30 (by decide) ?_
      refine x_istore d_TE_addVariable_31 (Nat.le_of_ble_eq_true rfl) ?_
      exact hnl false (by rw [g_nl, decide_eq_false (fun q => c_23 ((g_sb95 _ (hu f)).mpr q)), Bool.and_false])
    · refine x_iconst 1 d_TE_addVariable_26 (by decide) ?_
      refine x_goto 31 d_TE_addVariable_27 (by decide) ?_
      refine x_istore d_TE_addVariable_31 (Nat.le_of_ble_eq_true rfl) ?_
      exact hnl true (by rw [g_nl, decide_eq_true h1f, decide_eq_true ((g_sb95 _ (hu f)).mp c_23)]; rfl)
