/-- the text from f to t is l -/
def g_mt (a : Nat → Int32) : List Int32 → Nat → Bool
  | [], _ => true
  | b :: l, j => decide (a j = b) && g_mt a l (j + 1)
def g_is (a : Nat → Int32) (f t : Nat) (l : List Int32) : Bool := decide (t - f = l.length) && g_mt a l f
theorem g_slen : ∀ i, i < 33 → x_lenS.getD i 0 = (x_bytS.getD i []).length ∧ x_lenS.getD i 0 < 64 := by decide +kernel
theorem g_nIne {a b : Nat} (ha : a < 2 ^ 31) (hb : b < 2 ^ 31) : nI a = nI b ↔ a = b := ⟨fun h => by have := congrArg Int32.toNatClampNeg h; rwa [nI_clamp ha, nI_clamp hb] at this, fun h => by rw [h]⟩
theorem g_nIsub {a b : Nat} (h : b ≤ a) : nI a - nI b = nI (a - b) := by
  have e : a = (a - b) + b := by omega
  rw [e, ← nI_add (a - b) b, show (a - b + b - b) = a - b by omega]
  exact Int32.add_sub_cancel _ _
theorem d_SG_textIs_0 : decode M_SG_textIs.2.1 0 = .ok (.aload_n 0, 1) := by decide +kernel
theorem d_SG_textIs_1 : decode M_SG_textIs.2.1 1 = .ok (.getfield 105, 3) := by decide +kernel
theorem d_SG_textIs_4 : decode M_SG_textIs.2.1 4 = .ok (.aload_n 0, 1) := by decide +kernel
theorem d_SG_textIs_5 : decode M_SG_textIs.2.1 5 = .ok (.getfield 108, 3) := by decide +kernel
theorem d_SG_textIs_8 : decode M_SG_textIs.2.1 8 = .ok (.isub, 1) := by decide +kernel
theorem d_SG_textIs_9 : decode M_SG_textIs.2.1 9 = .ok (.aload_n 1, 1) := by decide +kernel
theorem d_SG_textIs_10 : decode M_SG_textIs.2.1 10 = .ok (.invokevirtual 111, 3) := by decide +kernel
theorem d_SG_textIs_13 : decode M_SG_textIs.2.1 13 = .ok (.if_icmp .eq 5, 3) := by decide +kernel
theorem d_SG_textIs_16 : decode M_SG_textIs.2.1 16 = .ok (.iconst 0, 1) := by decide +kernel
theorem d_SG_textIs_17 : decode M_SG_textIs.2.1 17 = .ok (.ireturn, 1) := by decide +kernel
theorem d_SG_textIs_18 : decode M_SG_textIs.2.1 18 = .ok (.iconst 0, 1) := by decide +kernel
theorem d_SG_textIs_19 : decode M_SG_textIs.2.1 19 = .ok (.istore_n 2, 1) := by decide +kernel
theorem d_SG_textIs_20 : decode M_SG_textIs.2.1 20 = .ok (.iload_n 2, 1) := by decide +kernel
theorem d_SG_textIs_21 : decode M_SG_textIs.2.1 21 = .ok (.aload_n 1, 1) := by decide +kernel
theorem d_SG_textIs_22 : decode M_SG_textIs.2.1 22 = .ok (.invokevirtual 111, 3) := by decide +kernel
theorem d_SG_textIs_25 : decode M_SG_textIs.2.1 25 = .ok (.if_icmp .ge 29, 3) := by decide +kernel
theorem d_SG_textIs_28 : decode M_SG_textIs.2.1 28 = .ok (.aload_n 0, 1) := by decide +kernel
theorem d_SG_textIs_29 : decode M_SG_textIs.2.1 29 = .ok (.aload_n 0, 1) := by decide +kernel
theorem d_SG_textIs_30 : decode M_SG_textIs.2.1 30 = .ok (.getfield 108, 3) := by decide +kernel
theorem d_SG_textIs_33 : decode M_SG_textIs.2.1 33 = .ok (.iload_n 2, 1) := by decide +kernel
theorem d_SG_textIs_34 : decode M_SG_textIs.2.1 34 = .ok (.iadd, 1) := by decide +kernel
theorem d_SG_textIs_35 : decode M_SG_textIs.2.1 35 = .ok (.invokevirtual 49, 3) := by decide +kernel
theorem d_SG_textIs_38 : decode M_SG_textIs.2.1 38 = .ok (.aload_n 1, 1) := by decide +kernel
theorem d_SG_textIs_39 : decode M_SG_textIs.2.1 39 = .ok (.iload_n 2, 1) := by decide +kernel
theorem d_SG_textIs_40 : decode M_SG_textIs.2.1 40 = .ok (.invokevirtual 116, 3) := by decide +kernel
theorem d_SG_textIs_43 : decode M_SG_textIs.2.1 43 = .ok (.if_icmp .eq 5, 3) := by decide +kernel
theorem d_SG_textIs_46 : decode M_SG_textIs.2.1 46 = .ok (.iconst 0, 1) := by decide +kernel
theorem d_SG_textIs_47 : decode M_SG_textIs.2.1 47 = .ok (.ireturn, 1) := by decide +kernel
theorem d_SG_textIs_48 : decode M_SG_textIs.2.1 48 = .ok (.iinc 2 1, 3) := by decide +kernel
theorem d_SG_textIs_51 : decode M_SG_textIs.2.1 51 = .ok (.goto (-31), 3) := by decide +kernel
theorem d_SG_textIs_54 : decode M_SG_textIs.2.1 54 = .ok (.iconst 1, 1) := by decide +kernel
theorem d_SG_textIs_55 : decode M_SG_textIs.2.1 55 = .ok (.ireturn, 1) := by decide +kernel
set_option maxRecDepth 20000 in
theorem w_SG_textIs {E : xR} {h : xH} {u : Nat → Nat} {N : Nat} {f t i : Nat} {w2 w3 w4 w7 : Value} (hi : i < 33) (h3 : h 3 = .inr (2, [.ref 1, .int (nI N), w2, w3, w4, .int (nI f), .int (nI t), w7])) (h1 : h 1 = .inl (1, 4096, .inl (fun i => g_sb (u i)))) (hu : ∀ i, u i < 256) (hN : N ≤ 4096) (hf : f ≤ t) (ht : t ≤ 4096) : x_Mt E M_SG_textIs 4 0 0 [.ref 3, .ref (2000000 + i)] 52 h (x_Y (some (.int (g_b2 (g_is (g_at u N) f t (x_bytS.getD i []))))) 52 h) := by
  obtain ⟨hl1, hl2⟩ := g_slen i hi
  refine x_Mt.of (by decide) (Nat.le_of_ble_eq_true rfl) ?_
  have hloop : ∀ (l : List Int32) (j : Nat), (x_bytS.getD i []).drop j = l → j ≤ x_lenS.getD i 0 → t - f = x_lenS.getD i 0 → g_is (g_at u N) f t (x_bytS.getD i []) = g_mt (g_at u N) l (f + j) → x_W E M_SG_textIs (x_room 4 0 0) (x_Y (some (.int (g_b2 (g_is (g_at u N) f t (x_bytS.getD i []))))) 52 h) 52 h 20 [(0, .ref 3), (1, .ref (2000000 + i)), (2, .int (nI j))] [] 0 0 := by
    intro l
    induction l with
    | nil =>
      intro j hd hj htf hg
      have hj2 : j = x_lenS.getD i 0 := by
        have := List.drop_eq_nil_iff.mp hd
        omega
      refine x_iload_n d_SG_textIs_20 rfl rfl ?_
      refine x_aload_n d_SG_textIs_21 rfl rfl ?_
      refine x_callT0Y d_SG_textIs_22 k_SG_111 rfl hi (w_ST_length hi) (Nat.le_of_ble_eq_true rfl) (Nat.le_of_ble_eq_true rfl) (Nat.le_of_ble_eq_true rfl) (Nat.le_of_ble_eq_true rfl) (Nat.le_of_ble_eq_true rfl) rfl ?_
      refine x_icmp_ge 54 d_SG_textIs_25 (by decide) (fun _ => ?_) (fun z => absurd (by rw [hj2]; exact nI_le (Nat.le_refl _) (by omega)) z)
      refine x_iconst 1 d_SG_textIs_54 (by decide) ?_
      exact x_ireturn d_SG_textIs_55 rfl rfl ⟨congrArg (fun z => Sum.inl (some (Value.int z))) (show (1 : Int32) = (g_b2 (g_is (g_at u N) f t (x_bytS.getD i []))) by rw [hg]; rfl), rfl, fun _ _ => rfl, rfl, rfl⟩
    | cons b l ih =>
      intro j hd hj htf hg
      have hjl : j < x_lenS.getD i 0 := by
        rcases Nat.lt_or_ge j (x_lenS.getD i 0) with q | q
        · exact q
        · rw [List.drop_eq_nil_of_le (by omega)] at hd; cases hd
      have hjL : j < (x_bytS.getD i []).length := by omega
      have hb : (x_bytS.getD i []).getD j 0 = b ∧ (x_bytS.getD i []).drop (j + 1) = l := by
        rw [List.drop_eq_getElem_cons hjL] at hd
        refine ⟨?_, (List.cons.inj hd).2⟩
        rw [List.getD_eq_getElem?_getD, List.getElem?_eq_getElem hjL]
        exact (List.cons.inj hd).1
      rw [g_mt] at hg
      refine x_iload_n d_SG_textIs_20 rfl rfl ?_
      refine x_aload_n d_SG_textIs_21 rfl rfl ?_
      refine x_callT0Y d_SG_textIs_22 k_SG_111 rfl hi (w_ST_length hi) (Nat.le_of_ble_eq_true rfl) (Nat.le_of_ble_eq_true rfl) (Nat.le_of_ble_eq_true rfl) (Nat.le_of_ble_eq_true rfl) (Nat.le_of_ble_eq_true rfl) rfl ?_
      refine x_icmp_ge 54 d_SG_textIs_25 (by decide) (fun z => absurd z (nI_ge hjl (by omega))) (fun _ => ?_)
      refine x_aload_n d_SG_textIs_28 rfl rfl ?_
      refine x_aload_n d_SG_textIs_29 rfl rfl ?_
      refine x_get d_SG_textIs_30 f_SG_108 (Nat.le_of_ble_eq_true rfl) (Nat.le_of_ble_eq_true rfl) (by first | rfl | assumption) (by rfl) ?_
      refine x_iload_n d_SG_textIs_33 rfl rfl ?_
      refine x_iadd d_SG_textIs_34 ?_
      refine x_topi (nI (f + j)) (nI_add f j) ?_
      refine x_callV1Y d_SG_textIs_35 k_SG_49 (Nat.le_of_ble_eq_true rfl) (Nat.le_of_ble_eq_true rfl) (by first | rfl | assumption) (by rfl) (w_SG_at (by first | rfl | assumption) (by first | rfl | assumption) hu hN (by omega)) (Nat.le_of_ble_eq_true rfl) (Nat.le_of_ble_eq_true rfl) (Nat.le_of_ble_eq_true rfl) (Nat.le_of_ble_eq_true rfl) (Nat.le_of_ble_eq_true rfl) rfl ?_
      refine x_aload_n d_SG_textIs_38 rfl rfl ?_
      refine x_iload_n d_SG_textIs_39 rfl rfl ?_
      refine x_callT1Y d_SG_textIs_40 k_SG_116 rfl hi (w_ST_charAt hi hjl) (Nat.le_of_ble_eq_true rfl) (Nat.le_of_ble_eq_true rfl) (Nat.le_of_ble_eq_true rfl) (Nat.le_of_ble_eq_true rfl) (Nat.le_of_ble_eq_true rfl) rfl ?_
      refine x_icmp_eq 48 d_SG_textIs_43 (by decide) (fun c_43 => ?_) (fun c_43 => ?_)
      · refine x_iinc d_SG_textIs_48 rfl 1 (by decide) (Nat.le_of_ble_eq_true rfl) ?_
        refine x_goto 20 d_SG_textIs_51 (by decide) ?_
        refine x_lv [(0, .ref 3), (1, .ref (2000000 + i)), (2, .int (nI (j + 1)))] (by rw [nI_succ j]; rfl) ?_
        exact ih (j + 1) hb.2 (by omega) htf (by rw [hg, ← hb.1, decide_eq_true c_43]; rfl)
      · refine x_iconst 0 d_SG_textIs_46 (by decide) ?_
        exact x_ireturn d_SG_textIs_47 rfl rfl ⟨congrArg (fun z => Sum.inl (some (Value.int z))) (show (0 : Int32) = (g_b2 (g_is (g_at u N) f t (x_bytS.getD i []))) by rw [hg, ← hb.1, decide_eq_false c_43]; rfl), rfl, fun _ _ => rfl, rfl, rfl⟩
  show x_W E M_SG_textIs _ _ 52 h 0 [(0, .ref 3), (1, .ref (2000000 + i))] [] 0 0
  refine x_aload_n d_SG_textIs_0 rfl rfl ?_
  refine x_get d_SG_textIs_1 f_SG_105 (Nat.le_of_ble_eq_true rfl) (Nat.le_of_ble_eq_true rfl) (by first | rfl | assumption) (by rfl) ?_
  refine x_aload_n d_SG_textIs_4 rfl rfl ?_
  refine x_get d_SG_textIs_5 f_SG_108 (Nat.le_of_ble_eq_true rfl) (Nat.le_of_ble_eq_true rfl) (by first | rfl | assumption) (by rfl) ?_
  refine x_isub d_SG_textIs_8 ?_
  refine x_topi (nI (t - f)) (g_nIsub hf) ?_
  refine x_aload_n d_SG_textIs_9 rfl rfl ?_
  refine x_callT0Y d_SG_textIs_10 k_SG_111 rfl hi (w_ST_length hi) (Nat.le_of_ble_eq_true rfl) (Nat.le_of_ble_eq_true rfl) (Nat.le_of_ble_eq_true rfl) (Nat.le_of_ble_eq_true rfl) (Nat.le_of_ble_eq_true rfl) rfl ?_
  refine x_icmp_eq 18 d_SG_textIs_13 (by decide) (fun c_13 => ?_) (fun c_13 => ?_)
  · have htf : t - f = x_lenS.getD i 0 := (g_nIne (by omega) (by omega)).mp c_13
    refine x_iconst 0 d_SG_textIs_18 (by decide) ?_
    refine x_istore_n d_SG_textIs_19 rfl (Nat.le_of_ble_eq_true rfl) ?_
    exact hloop _ 0 rfl (Nat.zero_le _) htf (by rw [g_is, hl1.symm, decide_eq_true htf]; rfl)
  · refine x_iconst 0 d_SG_textIs_16 (by decide) ?_
    exact x_ireturn d_SG_textIs_17 rfl rfl ⟨congrArg (fun z => Sum.inl (some (Value.int z))) (show (0 : Int32) = (g_b2 (g_is (g_at u N) f t (x_bytS.getD i []))) by rw [g_is, hl1.symm, decide_eq_false (fun q => c_13 (by rw [q]))]; rfl), rfl, fun _ _ => rfl, rfl, rfl⟩
theorem d_SG_mustBe_0 : decode M_SG_mustBe.2.1 0 = .ok (.aload_n 0, 1) := by decide +kernel
theorem d_SG_mustBe_1 : decode M_SG_mustBe.2.1 1 = .ok (.getfield 21, 3) := by decide +kernel
theorem d_SG_mustBe_4 : decode M_SG_mustBe.2.1 4 = .ok (.aload_n 1, 1) := by decide +kernel
theorem d_SG_mustBe_5 : decode M_SG_mustBe.2.1 5 = .ok (.if_acmp .eq 7, 3) := by decide +kernel
theorem d_SG_mustBe_8 : decode M_SG_mustBe.2.1 8 = .ok (.aload_n 0, 1) := by decide +kernel
theorem d_SG_mustBe_9 : decode M_SG_mustBe.2.1 9 = .ok (.invokevirtual 93, 3) := by decide +kernel
theorem d_SG_mustBe_12 : decode M_SG_mustBe.2.1 12 = .ok (.return_, 1) := by decide +kernel
set_option maxRecDepth 20000 in
theorem w_SG_mustBe {E : xR} {h : xH} {k j : Nat} {pl : Int32} {w0 w1 w2 w5 w6 w7 : Value} (h3 : h 3 = .inr (2, [w0, w1, w2, .ref (1000000 + k), .int pl, w5, w6, w7])) (hk : k < 12) (hj : j < 12) : x_Mt E M_SG_mustBe 7 1 6 [.ref 3, .ref (1000000 + j)] 52 h (x_YX (decide (k = j)) none h 2 (x_up h 3 (.inr (2, [w0, w1, w2, .ref (1000000 + k), .int pl, w5, w6, .int pl])))) := by
  refine x_Mt.of (by decide) (Nat.le_of_ble_eq_true rfl) ?_
  show x_W E M_SG_mustBe _ _ 52 h 0 [(0, .ref 3), (1, .ref (1000000 + j))] [] 0 0
  refine x_aload_n d_SG_mustBe_0 rfl rfl ?_
  refine x_get d_SG_mustBe_1 f_SG_21 (Nat.le_of_ble_eq_true rfl) (Nat.le_of_ble_eq_true rfl) (by first | rfl | assumption) (by rfl) ?_
  refine x_aload_n d_SG_mustBe_4 rfl rfl ?_
  refine x_acmp_eq 12 d_SG_mustBe_5 (by decide) (Or.inl ⟨rfl, rfl⟩) (by first | assumption | decide | omega) (by first | assumption | decide | omega) (fun c_5 => ?_) (fun c_5 => ?_)
  · exact x_return d_SG_mustBe_12 rfl (x_YX1 (decide_eq_true c_5) (fun _ _ => rfl))
  · refine x_aload_n d_SG_mustBe_8 rfl rfl ?_
    exact x_callV0X d_SG_mustBe_9 k_SG_93 (Nat.le_of_ble_eq_true rfl) (Nat.le_of_ble_eq_true rfl) (by first | rfl | assumption) (by rfl) (w_SG_breakHere (by first | rfl | assumption)) (Nat.le_of_ble_eq_true rfl) (Nat.le_of_ble_eq_true rfl) (Nat.le_of_ble_eq_true rfl) (Nat.le_of_ble_eq_true rfl) (Nat.le_of_ble_eq_true rfl) rfl (fun h2 e2 => x_YX0 (decide_eq_false c_5) e2)
def g_lft : List Int32 := [1199, 1099, 1049, 999, -1, 699, 699, 699, 699, 699, 699, 699, 699, 699, 699, 699, 500, 500, 400, 400, 400, 400, -1, -1]
def g_fit (pf : Bool) (i : Nat) : Bool := !decide (i = 3) && (!decide (i = 23) && decide (g_b2 (decide (g_lft.getD i 0 = -1)) = g_b2 pf))
def g_tx (i : Nat) : List Int32 := x_bytS.getD (x_txOP.getD i 0) []
/-- the first operator of this kind with this text; 23: none -/
def g_nmF (a : Nat → Int32) (f t : Nat) (pf : Bool) : Nat → Nat → Nat
  | 0, _ => 23
  | m + 1, i => bif g_fit pf i && g_is a f t (g_tx i) then i else g_nmF a f t pf m (i + 1)
def g_nm (a : Nat → Int32) (k f t : Nat) (pf : Bool) : Nat := if k = 2 then g_nmF a f t pf 24 0 else 23
theorem g_txi : ∀ i, i < 24 → x_txOP.getD i 0 < 33 := by decide
theorem g_nm24 {a : Nat → Int32} {f t : Nat} {pf : Bool} : ∀ m i, i + m = 24 → g_nmF a f t pf m i < 24
  | 0, i, _ => by show 23 < 24; decide
  | m + 1, i, h => by
    rw [g_nmF]
    cases g_fit pf i && g_is a f t (g_tx i) with
    | true => show i < 24; omega
    | false => exact g_nm24 m (i + 1) (by omega)
theorem g_nmL {a : Nat → Int32} {k f t : Nat} {pf : Bool} : g_nm a k f t pf < 24 := by
  unfold g_nm
  split
  · exact g_nm24 24 0 rfl
  · decide
theorem d_OP_named_0 : decode M_OP_named.2.1 0 = .ok (.aload_n 0, 1) := by decide +kernel
theorem d_OP_named_1 : decode M_OP_named.2.1 1 = .ok (.getfield 111, 3) := by decide +kernel
theorem d_OP_named_4 : decode M_OP_named.2.1 4 = .ok (.getstatic 126, 3) := by decide +kernel
theorem d_OP_named_7 : decode M_OP_named.2.1 7 = .ok (.if_acmp .eq 7, 3) := by decide +kernel
theorem d_OP_named_10 : decode M_OP_named.2.1 10 = .ok (.getstatic 75, 3) := by decide +kernel
theorem d_OP_named_13 : decode M_OP_named.2.1 13 = .ok (.areturn, 1) := by decide +kernel
theorem d_OP_named_14 : decode M_OP_named.2.1 14 = .ok (.iconst 0, 1) := by decide +kernel
theorem d_OP_named_15 : decode M_OP_named.2.1 15 = .ok (.istore_n 2, 1) := by decide +kernel
theorem d_OP_named_16 : decode M_OP_named.2.1 16 = .ok (.iload_n 2, 1) := by decide +kernel
theorem d_OP_named_17 : decode M_OP_named.2.1 17 = .ok (.getstatic 129, 3) := by decide +kernel
theorem d_OP_named_20 : decode M_OP_named.2.1 20 = .ok (.arraylength, 1) := by decide +kernel
theorem d_OP_named_21 : decode M_OP_named.2.1 21 = .ok (.if_icmp .ge 71, 3) := by decide +kernel
theorem d_OP_named_24 : decode M_OP_named.2.1 24 = .ok (.getstatic 129, 3) := by decide +kernel
theorem d_OP_named_27 : decode M_OP_named.2.1 27 = .ok (.iload_n 2, 1) := by decide +kernel
theorem d_OP_named_28 : decode M_OP_named.2.1 28 = .ok (.aaload, 1) := by decide +kernel
theorem d_OP_named_29 : decode M_OP_named.2.1 29 = .ok (.astore_n 3, 1) := by decide +kernel
theorem d_OP_named_30 : decode M_OP_named.2.1 30 = .ok (.aload_n 3, 1) := by decide +kernel
theorem d_OP_named_31 : decode M_OP_named.2.1 31 = .ok (.getstatic 15, 3) := by decide +kernel
theorem d_OP_named_34 : decode M_OP_named.2.1 34 = .ok (.if_acmp .eq 31, 3) := by decide +kernel
theorem d_OP_named_37 : decode M_OP_named.2.1 37 = .ok (.aload_n 3, 1) := by decide +kernel
theorem d_OP_named_38 : decode M_OP_named.2.1 38 = .ok (.getstatic 75, 3) := by decide +kernel
theorem d_OP_named_41 : decode M_OP_named.2.1 41 = .ok (.if_acmp .eq 24, 3) := by decide +kernel
theorem d_OP_named_44 : decode M_OP_named.2.1 44 = .ok (.aload_n 3, 1) := by decide +kernel
theorem d_OP_named_45 : decode M_OP_named.2.1 45 = .ok (.getfield 105, 3) := by decide +kernel
theorem d_OP_named_48 : decode M_OP_named.2.1 48 = .ok (.iconst (-1), 1) := by decide +kernel
theorem d_OP_named_49 : decode M_OP_named.2.1 49 = .ok (.if_icmp .ne 7, 3) := by decide +kernel
theorem d_OP_named_52 : decode M_OP_named.2.1 52 = .ok (.iconst 1, 1) := by decide +kernel
theorem d_OP_named_53 : decode M_OP_named.2.1 53 = .ok (.goto 4, 3) := by decide +kernel
theorem d_OP_named_56 : decode M_OP_named.2.1 56 = .ok (.iconst 0, 1) := by decide +kernel
theorem d_OP_named_57 : decode M_OP_named.2.1 57 = .ok (.iload_n 1, 1) := by decide +kernel
theorem d_OP_named_58 : decode M_OP_named.2.1 58 = .ok (.if_icmp .ne 7, 3) := by decide +kernel
theorem d_OP_named_61 : decode M_OP_named.2.1 61 = .ok (.iconst 1, 1) := by decide +kernel
theorem d_OP_named_62 : decode M_OP_named.2.1 62 = .ok (.goto 4, 3) := by decide +kernel
theorem d_OP_named_65 : decode M_OP_named.2.1 65 = .ok (.iconst 0, 1) := by decide +kernel
theorem d_OP_named_66 : decode M_OP_named.2.1 66 = .ok (.istore 4, 2) := by decide +kernel
theorem d_OP_named_68 : decode M_OP_named.2.1 68 = .ok (.iload 4, 2) := by decide +kernel
theorem d_OP_named_70 : decode M_OP_named.2.1 70 = .ok (.ifCond .eq 16, 3) := by decide +kernel
theorem d_OP_named_73 : decode M_OP_named.2.1 73 = .ok (.aload_n 0, 1) := by decide +kernel
theorem d_OP_named_74 : decode M_OP_named.2.1 74 = .ok (.aload_n 3, 1) := by decide +kernel
theorem d_OP_named_75 : decode M_OP_named.2.1 75 = .ok (.getfield 97, 3) := by decide +kernel
theorem d_OP_named_78 : decode M_OP_named.2.1 78 = .ok (.invokevirtual 132, 3) := by decide +kernel
theorem d_OP_named_81 : decode M_OP_named.2.1 81 = .ok (.ifCond .eq 5, 3) := by decide +kernel
theorem d_OP_named_84 : decode M_OP_named.2.1 84 = .ok (.aload_n 3, 1) := by decide +kernel
theorem d_OP_named_85 : decode M_OP_named.2.1 85 = .ok (.areturn, 1) := by decide +kernel
theorem d_OP_named_86 : decode M_OP_named.2.1 86 = .ok (.iinc 2 1, 3) := by decide +kernel
theorem d_OP_named_89 : decode M_OP_named.2.1 89 = .ok (.goto (-73), 3) := by decide +kernel
theorem d_OP_named_92 : decode M_OP_named.2.1 92 = .ok (.getstatic 75, 3) := by decide +kernel
theorem d_OP_named_95 : decode M_OP_named.2.1 95 = .ok (.areturn, 1) := by decide +kernel
set_option maxRecDepth 20000 in
theorem w_OP_named {E : xR} {h : xH} {u : Nat → Nat} {N : Nat} {k f t : Nat} {pf : Bool} {w2 w4 w7 : Value} (hk : k < 12) (h3 : h 3 = .inr (2, [.ref 1, .int (nI N), w2, .ref (1000000 + k), w4, .int (nI f), .int (nI t), w7])) (h1 : h 1 = .inl (1, 4096, .inl (fun i => g_sb (u i)))) (hu : ∀ i, u i < 256) (hN : N ≤ 4096) (hf : f ≤ t) (ht : t ≤ 4096) : x_Mt E M_OP_named 5 0 0 [.ref 3, .int (g_b2 pf)] 52 h (x_Y (some (.ref (1100000 + g_nm (g_at u N) k f t pf))) 52 h) := by
  refine x_Mt.of (by decide) (Nat.le_of_ble_eq_true rfl) ?_
  have hloop : ∀ m i, i + m = 24 → g_nm (g_at u N) k f t pf = g_nmF (g_at u N) f t pf m i → x_W E M_OP_named (x_room 5 0 0) (x_Y (some (.ref (1100000 + g_nm (g_at u N) k f t pf))) 52 h) 52 h 16 [(0, .ref 3), (1, .int (g_b2 pf)), (2, .int (nI i))] [] 0 0 := by
    intro m
    induction m with
    | zero =>
      intro i hi hg
      obtain rfl : i = 24 := by omega
      refine x_iload_n d_OP_named_16 rfl rfl ?_
      refine x_gALL d_OP_named_17 s_OP_129 ?_
      refine x_lenALL d_OP_named_20 ?_
      refine x_icmp_ge 92 d_OP_named_21 (by decide) (fun _ => ?_) (fun z => absurd (show (24 : Int32) ≤ nI 24 by decide) z)
      refine x_gOP (i := 23) d_OP_named_92 (by decide) s_OP_75 ?_
      exact x_areturn d_OP_named_95 rfl ⟨congrArg (fun z => Sum.inl (some (Value.ref (1100000 + z)))) (show 23 = _ by rw [hg]; rfl), rfl, fun _ _ => rfl, rfl, rfl⟩
    | succ m ih =>
      intro i hi hg
      have hti := g_txi i (by omega)
      rw [g_nmF] at hg
      have hnx : (g_fit pf i && g_is (g_at u N) f t (g_tx i)) = false → ∀ x y : Value, x_W E M_OP_named (x_room 5 0 0) (x_Y (some (.ref (1100000 + g_nm (g_at u N) k f t pf))) 52 h) 52 h 86 [(0, .ref 3), (1, .int (g_b2 pf)), (2, .int (nI i)), (3, x), (4, y)] [] 0 0 := by
        intro hb x y
        rw [hb] at hg
        refine x_iinc d_OP_named_86 rfl 1 (by decide) (Nat.le_of_ble_eq_true rfl) ?_
        refine x_goto 16 d_OP_named_89 (by decide) ?_
        refine x_lv [(0, .ref 3), (1, .int (g_b2 pf)), (2, .int (nI (i + 1))), (3, x), (4, y)] (by rw [nI_succ i]; rfl) ?_
        exact x_wk [(0, .ref 3), (1, .int (g_b2 pf)), (2, .int (nI (i + 1)))] (by simp) (ih (i + 1) (by omega) hg)
      have hfit : ∀ x : Bool, g_fit pf i = x → x_W E M_OP_named (x_room 5 0 0) (x_Y (some (.ref (1100000 + g_nm (g_at u N) k f t pf))) 52 h) 52 h 68 [(0, .ref 3), (1, .int (g_b2 pf)), (2, .int (nI i)), (3, .ref (1100000 + i)), (4, .int (g_b2 x))] [] 0 0 := by
        intro x hx
        refine x_iload d_OP_named_68 rfl ?_
        refine x_if_eq 86 d_OP_named_70 (by decide) (fun c_70 => ?_) (fun c_70 => ?_)
        · exact hnx (by rw [hx, g_b2z c_70]; rfl) _ _
        · refine x_aload_n d_OP_named_73 rfl rfl ?_
          refine x_aload_n d_OP_named_74 rfl rfl ?_
          refine x_gOPt d_OP_named_75 (by first | assumption | decide | omega) s_OP_97 ?_
          refine x_callV1Y d_OP_named_78 k_OP_132 (Nat.le_of_ble_eq_true rfl) (Nat.le_of_ble_eq_true rfl) (by first | rfl | assumption) (by rfl) (w_SG_textIs hti (by first | rfl | assumption) (by first | rfl | assumption) hu hN hf ht) (Nat.le_of_ble_eq_true rfl) (Nat.le_of_ble_eq_true rfl) (Nat.le_of_ble_eq_true rfl) (Nat.le_of_ble_eq_true rfl) (Nat.le_of_ble_eq_true rfl) rfl ?_
          refine x_if_eq 86 d_OP_named_81 (by decide) (fun c_81 => ?_) (fun c_81 => ?_)
          · exact hnx (by rw [show g_is (g_at u N) f t (g_tx i) = false from g_b2z c_81, Bool.and_false]) _ _
          · refine x_aload_n d_OP_named_84 rfl rfl ?_
            exact x_areturn d_OP_named_85 rfl ⟨congrArg (fun z => Sum.inl (some (Value.ref (1100000 + z)))) (show i = _ by rw [hg, hx, g_b2n c_70, show g_is (g_at u N) f t (g_tx i) = true from g_b2n c_81]; rfl), rfl, fun _ _ => rfl, rfl, rfl⟩
      refine x_iload_n d_OP_named_16 rfl rfl ?_
      refine x_gALL d_OP_named_17 s_OP_129 ?_
      refine x_lenALL d_OP_named_20 ?_
      refine x_icmp_ge 92 d_OP_named_21 (by decide) (fun z => absurd z (show ¬ nI 24 ≤ nI i from nI_ge (by omega) (by decide))) (fun _ => ?_)
      refine x_gALL d_OP_named_24 s_OP_129 ?_
      refine x_iload_n d_OP_named_27 rfl rfl ?_
      refine x_aALL d_OP_named_28 (by omega) ?_
      refine x_astore_n d_OP_named_29 rfl (Nat.le_of_ble_eq_true rfl) ?_
      refine x_aload_n d_OP_named_30 rfl rfl ?_
      refine x_gOP (i := 3) d_OP_named_31 (by decide) s_OP_15 ?_
      refine x_acmp_eq 65 d_OP_named_34 (by decide) (Or.inr ⟨rfl, rfl⟩) (by first | assumption | decide | omega) (by first | assumption | decide | omega) (fun c_34 => ?_) (fun c_34 => ?_)
      · refine x_iconst 0 d_OP_named_65 (by decide) ?_
        refine x_istore d_OP_named_66 (Nat.le_of_ble_eq_true rfl) ?_
        exact hfit false (by simp [g_fit, c_34])
      · refine x_aload_n d_OP_named_37 rfl rfl ?_
        refine x_gOP (i := 23) d_OP_named_38 (by decide) s_OP_75 ?_
        refine x_acmp_eq 65 d_OP_named_41 (by decide) (Or.inr ⟨rfl, rfl⟩) (by first | assumption | decide | omega) (by first | assumption | decide | omega) (fun c_41 => ?_) (fun c_41 => ?_)
        · refine x_iconst 0 d_OP_named_65 (by decide) ?_
          refine x_istore d_OP_named_66 (Nat.le_of_ble_eq_true rfl) ?_
          exact hfit false (by simp [g_fit, c_41])
        · refine x_aload_n d_OP_named_44 rfl rfl ?_
          refine x_gOPi (k := 2) d_OP_named_45 (by first | assumption | decide | omega) rfl s_OP_105 ?_
          refine x_iconst (-1) d_OP_named_48 (by decide) ?_
          refine x_icmp_ne 56 d_OP_named_49 (by decide) (fun c_49 => ?_) (fun c_49 => ?_)
          · refine x_iconst 0 d_OP_named_56 (by decide) ?_
            refine x_iload_n d_OP_named_57 rfl rfl ?_
            refine x_icmp_ne 65 d_OP_named_58 (by decide) (fun c_58 => ?_) (fun c_58 => ?_)
            · refine x_iconst 0 d_OP_named_65 (by decide) ?_
              refine x_istore d_OP_named_66 (Nat.le_of_ble_eq_true rfl) ?_
              exact hfit false (by simp only [g_fit, decide_eq_false c_34, decide_eq_false c_41, decide_eq_false (show ¬ g_lft.getD i 0 = -1 from c_49)]; exact decide_eq_false c_58)
            · refine x_iconst 1 d_OP_named_61 (by decide) ?_
              refine x_goto 66 d_OP_named_62 (by decide) ?_
              refine x_istore d_OP_named_66 (Nat.le_of_ble_eq_true rfl) ?_
              exact hfit true (by simp only [g_fit, decide_eq_false c_34, decide_eq_false c_41, decide_eq_false (show ¬ g_lft.getD i 0 = -1 from c_49)]; exact decide_eq_true c_58)
          · refine x_iconst 1 d_OP_named_52 (by decide) ?_
            refine x_goto 57 d_OP_named_53 (by decide) ?_
            refine x_iload_n d_OP_named_57 rfl rfl ?_
            refine x_icmp_ne 65 d_OP_named_58 (by decide) (fun c_58 => ?_) (fun c_58 => ?_)
            · refine x_iconst 0 d_OP_named_65 (by decide) ?_
              refine x_istore d_OP_named_66 (Nat.le_of_ble_eq_true rfl) ?_
              exact hfit false (by simp only [g_fit, decide_eq_false c_34, decide_eq_false c_41, decide_eq_true (show g_lft.getD i 0 = -1 from c_49)]; exact decide_eq_false c_58)
            · refine x_iconst 1 d_OP_named_61 (by decide) ?_
              refine x_goto 66 d_OP_named_62 (by decide) ?_
              refine x_istore d_OP_named_66 (Nat.le_of_ble_eq_true rfl) ?_
              exact hfit true (by simp only [g_fit, decide_eq_false c_34, decide_eq_false c_41, decide_eq_true (show g_lft.getD i 0 = -1 from c_49)]; exact decide_eq_true c_58)
  show x_W E M_OP_named _ _ 52 h 0 [(0, .ref 3), (1, .int (g_b2 pf))] [] 0 0
  refine x_aload_n d_OP_named_0 rfl rfl ?_
  refine x_get d_OP_named_1 f_OP_111 (Nat.le_of_ble_eq_true rfl) (Nat.le_of_ble_eq_true rfl) (by first | rfl | assumption) (by rfl) ?_
  refine x_gSN (i := 2) d_OP_named_4 (by decide) s_OP_126 ?_
  refine x_acmp_eq 14 d_OP_named_7 (by decide) (Or.inl ⟨rfl, rfl⟩) (by first | assumption | decide | omega) (by first | assumption | decide | omega) (fun c_7 => ?_) (fun c_7 => ?_)
  · refine x_iconst 0 d_OP_named_14 (by decide) ?_
    refine x_istore_n d_OP_named_15 rfl (Nat.le_of_ble_eq_true rfl) ?_
    exact hloop 24 0 rfl (if_pos c_7)
  · refine x_gOP (i := 23) d_OP_named_10 (by decide) s_OP_75 ?_
    exact x_areturn d_OP_named_13 rfl ⟨congrArg (fun z => Sum.inl (some (Value.ref (1100000 + z)))) (show 23 = _ from (if_neg c_7).symm), rfl, fun _ _ => rfl, rfl, rfl⟩
