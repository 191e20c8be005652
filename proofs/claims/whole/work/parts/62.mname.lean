/-- the reference's names -/
def g_nw (h : xH) (sz te : Int32) (TX FR NX FS : Nat → Int32) : xH := x_up (x_up (x_up (x_up (x_up h 31 (.inr (7, [.ref 32, .ref 33, .ref 34, .ref 35, .int sz, .int te]))) 32 (.inl (1, 5000, .inl TX))) 33 (.inl (0, 9001, .inl FR))) 34 (.inl (0, 9000, .inl NX))) 35 (.inl (0, 1024, .inl FS))
theorem g_and10 (x : Int32) : ∃ m, m < 1024 ∧ x &&& 1023 = nI m := by
  refine ⟨(x.toBitVec &&& 1023#32).toNat, ?_, ?_⟩
  · rw [BitVec.toNat_and]
    exact Nat.lt_of_le_of_lt Nat.and_le_right (by decide)
  · apply Int32.toBitVec_inj.mp
    show x.toBitVec &&& 1023#32 = (nI (x.toBitVec &&& 1023#32).toNat).toBitVec
    show _ = BitVec.ofNat 32 _
    rw [BitVec.ofNat_toNat, BitVec.setWidth_eq]
/-- the hash of a text -/
def g_hh (x : List Int32) : Int32 := x.foldl (fun h c => 31 * h + c) (nI x.length)
def g_hz (h : Int32) : Int32 := (h ^^^ (h.toUInt32 >>> ((11 : Int32).toUInt32 &&& Int32.toUInt32 31)).toInt32) &&& 1023
def g_H (x : List Int32) : Nat := (g_hz (g_hh x)).toNatClampNeg
theorem g_HL (x : List Int32) : g_H x < 1024 ∧ g_hz (g_hh x) = nI (g_H x) := by
  obtain ⟨m, h1, h2⟩ := g_and10 (g_hh x ^^^ ((g_hh x).toUInt32 >>> ((11 : Int32).toUInt32 &&& Int32.toUInt32 31)).toInt32)
  have h3 : g_hz (g_hh x) = nI m := h2
  have h4 : g_H x = m := by unfold g_H; rw [h3, nI_clamp (by omega)]
  rw [h4]; exact ⟨h1, h3⟩
theorem g_NAf {T : List (List Int32)} {TX FR NX FS : Nat → Int32} {k : Nat} {w : List Int32} (h : g_NA g_H T TX FR NX FS) (hk : g_nt T k = some w) : FR k = nI (g_of T k) ∧ FR (k + 1) = nI (g_of T k + w.length) := by
  have hl := g_ntL _ _ _ hk
  exact ⟨h.1 k (by omega), by rw [h.1 (k + 1) (by omega), g_ofN T k w hk]⟩
theorem d_NA_length_0 : decode M_NA_length.2.1 0 = .ok (.aload_n 0, 1) := by decide +kernel
theorem d_NA_length_1 : decode M_NA_length.2.1 1 = .ok (.getfield 15, 3) := by decide +kernel
theorem d_NA_length_4 : decode M_NA_length.2.1 4 = .ok (.iload_n 1, 1) := by decide +kernel
theorem d_NA_length_5 : decode M_NA_length.2.1 5 = .ok (.iconst 1, 1) := by decide +kernel
theorem d_NA_length_6 : decode M_NA_length.2.1 6 = .ok (.iadd, 1) := by decide +kernel
theorem d_NA_length_7 : decode M_NA_length.2.1 7 = .ok (.iaload, 1) := by decide +kernel
theorem d_NA_length_8 : decode M_NA_length.2.1 8 = .ok (.aload_n 0, 1) := by decide +kernel
theorem d_NA_length_9 : decode M_NA_length.2.1 9 = .ok (.getfield 15, 3) := by decide +kernel
theorem d_NA_length_12 : decode M_NA_length.2.1 12 = .ok (.iload_n 1, 1) := by decide +kernel
theorem d_NA_length_13 : decode M_NA_length.2.1 13 = .ok (.iaload, 1) := by decide +kernel
theorem d_NA_length_14 : decode M_NA_length.2.1 14 = .ok (.isub, 1) := by decide +kernel
theorem d_NA_length_15 : decode M_NA_length.2.1 15 = .ok (.ireturn, 1) := by decide +kernel
set_option maxRecDepth 20000 in
theorem w_NA_length {E : xR} {h : xH} {sz te : Int32} {TX FR NX FS : Nat → Int32} {T : List (List Int32)} {k : Nat} {w : List Int32} (hA : g_NA g_H T TX FR NX FS) (hk : g_nt T k = some w) (hk9 : k < 9000) (ht : g_tot T ≤ 5000) : x_Mt E M_NA_length 0 0 0 [.ref 31, .int (nI k)] 52 (g_nw h sz te TX FR NX FS) (x_Y (some (.int (nI w.length))) 52 (g_nw h sz te TX FR NX FS)) := by
  obtain ⟨f0, f1⟩ := g_NAf hA hk
  have hof := g_ofM T k w hk
  refine x_Mt.of (by decide) (Nat.le_of_ble_eq_true rfl) ?_
  show x_W E M_NA_length _ _ 52 (g_nw h sz te TX FR NX FS) 0 [(0, .ref 31), (1, .int (nI k))] [] 0 0
  refine x_aload_n d_NA_length_0 rfl rfl ?_
  refine x_get d_NA_length_1 f_NA_15 (Nat.le_of_ble_eq_true rfl) (Nat.le_of_ble_eq_true rfl) (by first | rfl | assumption) (by rfl) ?_
  refine x_iload_n d_NA_length_4 rfl rfl ?_
  refine x_iconst 1 d_NA_length_5 (by decide) ?_
  refine x_iadd d_NA_length_6 ?_
  refine x_topi (nI (k + 1)) (nI_succ k).symm ?_
  refine x_iald d_NA_length_7 (Nat.le_of_ble_eq_true rfl) (Nat.le_of_ble_eq_true rfl) (by first | rfl | assumption) (vp_in_nI (show k + 1 < 9001 by omega) (by decide)) ?_
  refine x_topi (nI (g_of T k + w.length)) (by rw [nI_clamp (by omega)]; exact f1) ?_
  refine x_aload_n d_NA_length_8 rfl rfl ?_
  refine x_get d_NA_length_9 f_NA_15 (Nat.le_of_ble_eq_true rfl) (Nat.le_of_ble_eq_true rfl) (by first | rfl | assumption) (by rfl) ?_
  refine x_iload_n d_NA_length_12 rfl rfl ?_
  refine x_iald d_NA_length_13 (Nat.le_of_ble_eq_true rfl) (Nat.le_of_ble_eq_true rfl) (by first | rfl | assumption) (vp_in_nI (show k < 9001 by omega) (by decide)) ?_
  refine x_topi (nI (g_of T k)) (by rw [nI_clamp (by omega)]; exact f0) ?_
  refine x_isub d_NA_length_14 ?_
  refine x_topi (nI w.length) (by rw [g_nIsub (by omega), Nat.add_sub_cancel_left]) ?_
  exact x_ireturn d_NA_length_15 rfl rfl ⟨rfl, rfl, fun _ _ => rfl, rfl, rfl⟩
theorem d_NA_at_0 : decode M_NA_at.2.1 0 = .ok (.aload_n 0, 1) := by decide +kernel
theorem d_NA_at_1 : decode M_NA_at.2.1 1 = .ok (.getfield 9, 3) := by decide +kernel
theorem d_NA_at_4 : decode M_NA_at.2.1 4 = .ok (.aload_n 0, 1) := by decide +kernel
theorem d_NA_at_5 : decode M_NA_at.2.1 5 = .ok (.getfield 15, 3) := by decide +kernel
theorem d_NA_at_8 : decode M_NA_at.2.1 8 = .ok (.iload_n 1, 1) := by decide +kernel
theorem d_NA_at_9 : decode M_NA_at.2.1 9 = .ok (.iaload, 1) := by decide +kernel
theorem d_NA_at_10 : decode M_NA_at.2.1 10 = .ok (.iload_n 2, 1) := by decide +kernel
theorem d_NA_at_11 : decode M_NA_at.2.1 11 = .ok (.iadd, 1) := by decide +kernel
theorem d_NA_at_12 : decode M_NA_at.2.1 12 = .ok (.baload, 1) := by decide +kernel
theorem d_NA_at_13 : decode M_NA_at.2.1 13 = .ok (.ireturn, 1) := by decide +kernel
set_option maxRecDepth 20000 in
theorem w_NA_at {E : xR} {h : xH} {sz te : Int32} {TX FR NX FS : Nat → Int32} {T : List (List Int32)} {k : Nat} {w : List Int32} (hA : g_NA g_H T TX FR NX FS) (hk : g_nt T k = some w) (hk9 : k < 9000) (ht : g_tot T ≤ 5000) {i : Nat} (hi : i < w.length) : x_Mt E M_NA_at 0 0 0 [.ref 31, .int (nI k), .int (nI i)] 52 (g_nw h sz te TX FR NX FS) (x_Y (some (.int w[i])) 52 (g_nw h sz te TX FR NX FS)) := by
  obtain ⟨f0, f1⟩ := g_NAf hA hk
  have hof := g_ofM T k w hk
  refine x_Mt.of (by decide) (Nat.le_of_ble_eq_true rfl) ?_
  show x_W E M_NA_at _ _ 52 (g_nw h sz te TX FR NX FS) 0 [(0, .ref 31), (1, .int (nI k)), (2, .int (nI i))] [] 0 0
  refine x_aload_n d_NA_at_0 rfl rfl ?_
  refine x_get d_NA_at_1 f_NA_9 (Nat.le_of_ble_eq_true rfl) (Nat.le_of_ble_eq_true rfl) (by first | rfl | assumption) (by rfl) ?_
  refine x_aload_n d_NA_at_4 rfl rfl ?_
  refine x_get d_NA_at_5 f_NA_15 (Nat.le_of_ble_eq_true rfl) (Nat.le_of_ble_eq_true rfl) (by first | rfl | assumption) (by rfl) ?_
  refine x_iload_n d_NA_at_8 rfl rfl ?_
  refine x_iald d_NA_at_9 (Nat.le_of_ble_eq_true rfl) (Nat.le_of_ble_eq_true rfl) (by first | rfl | assumption) (vp_in_nI (show k < 9001 by omega) (by decide)) ?_
  refine x_topi (nI (g_of T k)) (by rw [nI_clamp (by omega)]; exact f0) ?_
  refine x_iload_n d_NA_at_10 rfl rfl ?_
  refine x_iadd d_NA_at_11 ?_
  refine x_topi (nI (g_of T k + i)) (nI_add _ _) ?_
  refine x_bald d_NA_at_12 (Nat.le_of_ble_eq_true rfl) (Nat.le_of_ble_eq_true rfl) (by first | rfl | assumption) (vp_in_nI (show g_of T k + i < 5000 by omega) (by decide)) ?_
  refine x_topi w[i] (by rw [nI_clamp (by omega)]; exact hA.2.1 k w hk i hi) ?_
  exact x_ireturn d_NA_at_13 rfl rfl ⟨rfl, rfl, fun _ _ => rfl, rfl, rfl⟩
theorem g_eqL {w x : List Int32} (h : w.length = x.length) : ∀ m i, i + m = x.length → (∀ j (h1 : j < w.length) (h2 : j < x.length), j < i → w[j] = x[j]) → (∀ j (h1 : j < w.length) (h2 : j < x.length), i ≤ j → w[j] = x[j]) → w = x := by
  intro m i _ h1 h2
  refine List.ext_getElem h fun j a b => ?_
  rcases Nat.lt_or_ge j i with q | q
  · exact h1 j a b q
  · exact h2 j a b q
theorem d_NA_same_0 : decode M_NA_same.2.1 0 = .ok (.aload_n 0, 1) := by decide +kernel
theorem d_NA_same_1 : decode M_NA_same.2.1 1 = .ok (.getfield 15, 3) := by decide +kernel
theorem d_NA_same_4 : decode M_NA_same.2.1 4 = .ok (.iload_n 1, 1) := by decide +kernel
theorem d_NA_same_5 : decode M_NA_same.2.1 5 = .ok (.iconst 1, 1) := by decide +kernel
theorem d_NA_same_6 : decode M_NA_same.2.1 6 = .ok (.iadd, 1) := by decide +kernel
theorem d_NA_same_7 : decode M_NA_same.2.1 7 = .ok (.iaload, 1) := by decide +kernel
theorem d_NA_same_8 : decode M_NA_same.2.1 8 = .ok (.aload_n 0, 1) := by decide +kernel
theorem d_NA_same_9 : decode M_NA_same.2.1 9 = .ok (.getfield 15, 3) := by decide +kernel
theorem d_NA_same_12 : decode M_NA_same.2.1 12 = .ok (.iload_n 1, 1) := by decide +kernel
theorem d_NA_same_13 : decode M_NA_same.2.1 13 = .ok (.iaload, 1) := by decide +kernel
theorem d_NA_same_14 : decode M_NA_same.2.1 14 = .ok (.isub, 1) := by decide +kernel
theorem d_NA_same_15 : decode M_NA_same.2.1 15 = .ok (.iload_n 3, 1) := by decide +kernel
theorem d_NA_same_16 : decode M_NA_same.2.1 16 = .ok (.if_icmp .eq 5, 3) := by decide +kernel
theorem d_NA_same_19 : decode M_NA_same.2.1 19 = .ok (.iconst 0, 1) := by decide +kernel
theorem d_NA_same_20 : decode M_NA_same.2.1 20 = .ok (.ireturn, 1) := by decide +kernel
theorem d_NA_same_21 : decode M_NA_same.2.1 21 = .ok (.iconst 0, 1) := by decide +kernel
theorem d_NA_same_22 : decode M_NA_same.2.1 22 = .ok (.istore 4, 2) := by decide +kernel
theorem d_NA_same_24 : decode M_NA_same.2.1 24 = .ok (.iload 4, 2) := by decide +kernel
theorem d_NA_same_26 : decode M_NA_same.2.1 26 = .ok (.iload_n 3, 1) := by decide +kernel
theorem d_NA_same_27 : decode M_NA_same.2.1 27 = .ok (.if_icmp .ge 32, 3) := by decide +kernel
theorem d_NA_same_30 : decode M_NA_same.2.1 30 = .ok (.aload_n 0, 1) := by decide +kernel
theorem d_NA_same_31 : decode M_NA_same.2.1 31 = .ok (.getfield 9, 3) := by decide +kernel
theorem d_NA_same_34 : decode M_NA_same.2.1 34 = .ok (.aload_n 0, 1) := by decide +kernel
theorem d_NA_same_35 : decode M_NA_same.2.1 35 = .ok (.getfield 15, 3) := by decide +kernel
theorem d_NA_same_38 : decode M_NA_same.2.1 38 = .ok (.iload_n 1, 1) := by decide +kernel
theorem d_NA_same_39 : decode M_NA_same.2.1 39 = .ok (.iaload, 1) := by decide +kernel
theorem d_NA_same_40 : decode M_NA_same.2.1 40 = .ok (.iload 4, 2) := by decide +kernel
theorem d_NA_same_42 : decode M_NA_same.2.1 42 = .ok (.iadd, 1) := by decide +kernel
theorem d_NA_same_43 : decode M_NA_same.2.1 43 = .ok (.baload, 1) := by decide +kernel
theorem d_NA_same_44 : decode M_NA_same.2.1 44 = .ok (.aload_n 2, 1) := by decide +kernel
theorem d_NA_same_45 : decode M_NA_same.2.1 45 = .ok (.iload 4, 2) := by decide +kernel
theorem d_NA_same_47 : decode M_NA_same.2.1 47 = .ok (.baload, 1) := by decide +kernel
theorem d_NA_same_48 : decode M_NA_same.2.1 48 = .ok (.if_icmp .eq 5, 3) := by decide +kernel
theorem d_NA_same_51 : decode M_NA_same.2.1 51 = .ok (.iconst 0, 1) := by decide +kernel
theorem d_NA_same_52 : decode M_NA_same.2.1 52 = .ok (.ireturn, 1) := by decide +kernel
theorem d_NA_same_53 : decode M_NA_same.2.1 53 = .ok (.iinc 4 1, 3) := by decide +kernel
theorem d_NA_same_56 : decode M_NA_same.2.1 56 = .ok (.goto (-32), 3) := by decide +kernel
theorem d_NA_same_59 : decode M_NA_same.2.1 59 = .ok (.iconst 1, 1) := by decide +kernel
theorem d_NA_same_60 : decode M_NA_same.2.1 60 = .ok (.ireturn, 1) := by decide +kernel
set_option maxRecDepth 20000 in
theorem w_NA_same {E : xR} {h : xH} {sz te : Int32} {TX FR NX FS : Nat → Int32} {T : List (List Int32)} {k : Nat} {w : List Int32} (hA : g_NA g_H T TX FR NX FS) (hk : g_nt T k = some w) (hk9 : k < 9000) (ht : g_tot T ≤ 5000) {x : List Int32} {Wd : Nat → Int32} (h40 : h 40 = .inl (1, 4096, .inl Wd)) (hx : g_wx Wd x) (hx4 : x.length ≤ 4096) : x_Mt E M_NA_same 0 0 0 [.ref 31, .int (nI k), .ref 40, .int (nI x.length)] 52 (g_nw h sz te TX FR NX FS) (x_Y (some (.int (g_b2 (decide (w = x))))) 52 (g_nw h sz te TX FR NX FS)) := by
  obtain ⟨f0, f1⟩ := g_NAf hA hk
  have hof := g_ofM T k w hk
  refine x_Mt.of (by decide) (Nat.le_of_ble_eq_true rfl) ?_
  have hloop : w.length = x.length → ∀ m i, i + m = x.length → (∀ j (h1 : j < w.length) (h2 : j < x.length), j < i → w[j] = x[j]) → x_W E M_NA_same (x_room 0 0 0) (x_Y (some (.int (g_b2 (decide (w = x))))) 52 (g_nw h sz te TX FR NX FS)) 52 (g_nw h sz te TX FR NX FS) 24 [(0, .ref 31), (1, .int (nI k)), (2, .ref 40), (3, .int (nI x.length)), (4, .int (nI i))] [] 0 0 := by
    intro hlen m
    induction m with
    | zero =>
      intro i hi hj
      obtain rfl : i = x.length := by omega
      refine x_iload d_NA_same_24 rfl ?_
      refine x_iload_n d_NA_same_26 rfl rfl ?_
      refine x_icmp_ge 59 d_NA_same_27 (by decide) (fun _ => ?_) (fun z => absurd (nI_le (Nat.le_refl _) (by omega)) z)
      refine x_iconst 1 d_NA_same_59 (by decide) ?_
      exact x_ireturn d_NA_same_60 rfl rfl ⟨congrArg (fun z => Sum.inl (some (Value.int (g_b2 z)))) (show true = decide (w = x) from (decide_eq_true (List.ext_getElem hlen fun j a b => hj j a b b)).symm), rfl, fun _ _ => rfl, rfl, rfl⟩
    | succ m ih =>
      intro i hi hj
      have hiw : i < w.length := by omega
      have hix : i < x.length := by omega
      refine x_iload d_NA_same_24 rfl ?_
      refine x_iload_n d_NA_same_26 rfl rfl ?_
      refine x_icmp_ge 59 d_NA_same_27 (by decide) (fun z => absurd z (nI_ge (by omega) (by omega))) (fun _ => ?_)
      refine x_aload_n d_NA_same_30 rfl rfl ?_
      refine x_get d_NA_same_31 f_NA_9 (Nat.le_of_ble_eq_true rfl) (Nat.le_of_ble_eq_true rfl) (by first | rfl | assumption) (by rfl) ?_
      refine x_aload_n d_NA_same_34 rfl rfl ?_
      refine x_get d_NA_same_35 f_NA_15 (Nat.le_of_ble_eq_true rfl) (Nat.le_of_ble_eq_true rfl) (by first | rfl | assumption) (by rfl) ?_
      refine x_iload_n d_NA_same_38 rfl rfl ?_
      refine x_iald d_NA_same_39 (Nat.le_of_ble_eq_true rfl) (Nat.le_of_ble_eq_true rfl) (by first | rfl | assumption) (vp_in_nI (show k < 9001 by omega) (by decide)) ?_
      refine x_topi (nI (g_of T k)) (by rw [nI_clamp (by omega)]; exact f0) ?_
      refine x_iload d_NA_same_40 rfl ?_
      refine x_iadd d_NA_same_42 ?_
      refine x_topi (nI (g_of T k + i)) (nI_add _ _) ?_
      refine x_bald d_NA_same_43 (Nat.le_of_ble_eq_true rfl) (Nat.le_of_ble_eq_true rfl) (by first | rfl | assumption) (vp_in_nI (show g_of T k + i < 5000 by omega) (by decide)) ?_
      refine x_topi w[i] (by rw [nI_clamp (by omega)]; exact hA.2.1 k w hk i hiw) ?_
      refine x_aload_n d_NA_same_44 rfl rfl ?_
      refine x_iload d_NA_same_45 rfl ?_
      refine x_bald d_NA_same_47 (Nat.le_of_ble_eq_true rfl) (Nat.le_of_ble_eq_true rfl) (by first | rfl | assumption) (vp_in_nI (show i < 4096 by omega) (by decide)) ?_
      refine x_topi x[i] (by rw [nI_clamp (by omega)]; exact hx i hix) ?_
      refine x_icmp_eq 53 d_NA_same_48 (by decide) (fun c_48 => ?_) (fun c_48 => ?_)
      · refine x_iinc d_NA_same_53 rfl 1 (by decide) (Nat.le_of_ble_eq_true rfl) ?_
        refine x_goto 24 d_NA_same_56 (by decide) ?_
        refine x_lv [(0, .ref 31), (1, .int (nI k)), (2, .ref 40), (3, .int (nI x.length)), (4, .int (nI (i + 1)))] (by rw [nI_succ i]; rfl) ?_
        exact ih (i + 1) (by omega) (fun j a b q => by
          rcases Nat.lt_or_ge j i with z | z
          · exact hj j a b z
          · obtain rfl : j = i := by omega
            exact c_48)
      · refine x_iconst 0 d_NA_same_51 (by decide) ?_
        exact x_ireturn d_NA_same_52 rfl rfl ⟨congrArg (fun z => Sum.inl (some (Value.int (g_b2 z)))) (show false = decide (w = x) from (decide_eq_false (fun z => by subst z; exact c_48 rfl)).symm), rfl, fun _ _ => rfl, rfl, rfl⟩
  show x_W E M_NA_same _ _ 52 (g_nw h sz te TX FR NX FS) 0 [(0, .ref 31), (1, .int (nI k)), (2, .ref 40), (3, .int (nI x.length))] [] 0 0
  refine x_aload_n d_NA_same_0 rfl rfl ?_
  refine x_get d_NA_same_1 f_NA_15 (Nat.le_of_ble_eq_true rfl) (Nat.le_of_ble_eq_true rfl) (by first | rfl | assumption) (by rfl) ?_
  refine x_iload_n d_NA_same_4 rfl rfl ?_
  refine x_iconst 1 d_NA_same_5 (by decide) ?_
  refine x_iadd d_NA_same_6 ?_
  refine x_topi (nI (k + 1)) (nI_succ k).symm ?_
  refine x_iald d_NA_same_7 (Nat.le_of_ble_eq_true rfl) (Nat.le_of_ble_eq_true rfl) (by first | rfl | assumption) (vp_in_nI (show k + 1 < 9001 by omega) (by decide)) ?_
  refine x_topi (nI (g_of T k + w.length)) (by rw [nI_clamp (by omega)]; exact f1) ?_
  refine x_aload_n d_NA_same_8 rfl rfl ?_
  refine x_get d_NA_same_9 f_NA_15 (Nat.le_of_ble_eq_true rfl) (Nat.le_of_ble_eq_true rfl) (by first | rfl | assumption) (by rfl) ?_
  refine x_iload_n d_NA_same_12 rfl rfl ?_
  refine x_iald d_NA_same_13 (Nat.le_of_ble_eq_true rfl) (Nat.le_of_ble_eq_true rfl) (by first | rfl | assumption) (vp_in_nI (show k < 9001 by omega) (by decide)) ?_
  refine x_topi (nI (g_of T k)) (by rw [nI_clamp (by omega)]; exact f0) ?_
  refine x_isub d_NA_same_14 ?_
  refine x_topi (nI w.length) (by rw [g_nIsub (by omega), Nat.add_sub_cancel_left]) ?_
  refine x_iload_n d_NA_same_15 rfl rfl ?_
  refine x_icmp_eq 21 d_NA_same_16 (by decide) (fun c_16 => ?_) (fun c_16 => ?_)
  · refine x_iconst 0 d_NA_same_21 (by decide) ?_
    refine x_istore d_NA_same_22 (Nat.le_of_ble_eq_true rfl) ?_
    exact hloop ((g_nIne (by omega) (by omega)).mp c_16) x.length 0 (by omega) (fun j a b q => by omega)
  · refine x_iconst 0 d_NA_same_19 (by decide) ?_
    exact x_ireturn d_NA_same_20 rfl rfl ⟨congrArg (fun z => Sum.inl (some (Value.int (g_b2 z)))) (show false = decide (w = x) from (decide_eq_false (fun z => c_16 (by rw [z]))).symm), rfl, fun _ _ => rfl, rfl, rfl⟩
theorem d_NA_spells_0 : decode M_NA_spells.2.1 0 = .ok (.aload_n 0, 1) := by decide +kernel
theorem d_NA_spells_1 : decode M_NA_spells.2.1 1 = .ok (.iload_n 1, 1) := by decide +kernel
theorem d_NA_spells_2 : decode M_NA_spells.2.1 2 = .ok (.invokevirtual 36, 3) := by decide +kernel
theorem d_NA_spells_5 : decode M_NA_spells.2.1 5 = .ok (.aload_n 2, 1) := by decide +kernel
theorem d_NA_spells_6 : decode M_NA_spells.2.1 6 = .ok (.invokevirtual 40, 3) := by decide +kernel
theorem d_NA_spells_9 : decode M_NA_spells.2.1 9 = .ok (.if_icmp .eq 5, 3) := by decide +kernel
theorem d_NA_spells_12 : decode M_NA_spells.2.1 12 = .ok (.iconst 0, 1) := by decide +kernel
theorem d_NA_spells_13 : decode M_NA_spells.2.1 13 = .ok (.ireturn, 1) := by decide +kernel
theorem d_NA_spells_14 : decode M_NA_spells.2.1 14 = .ok (.iconst 0, 1) := by decide +kernel
theorem d_NA_spells_15 : decode M_NA_spells.2.1 15 = .ok (.istore_n 3, 1) := by decide +kernel
theorem d_NA_spells_16 : decode M_NA_spells.2.1 16 = .ok (.iload_n 3, 1) := by decide +kernel
theorem d_NA_spells_17 : decode M_NA_spells.2.1 17 = .ok (.aload_n 2, 1) := by decide +kernel
theorem d_NA_spells_18 : decode M_NA_spells.2.1 18 = .ok (.invokevirtual 40, 3) := by decide +kernel
theorem d_NA_spells_21 : decode M_NA_spells.2.1 21 = .ok (.if_icmp .ge 25, 3) := by decide +kernel
theorem d_NA_spells_24 : decode M_NA_spells.2.1 24 = .ok (.aload_n 0, 1) := by decide +kernel
theorem d_NA_spells_25 : decode M_NA_spells.2.1 25 = .ok (.iload_n 1, 1) := by decide +kernel
theorem d_NA_spells_26 : decode M_NA_spells.2.1 26 = .ok (.iload_n 3, 1) := by decide +kernel
theorem d_NA_spells_27 : decode M_NA_spells.2.1 27 = .ok (.invokevirtual 45, 3) := by decide +kernel
theorem d_NA_spells_30 : decode M_NA_spells.2.1 30 = .ok (.aload_n 2, 1) := by decide +kernel
theorem d_NA_spells_31 : decode M_NA_spells.2.1 31 = .ok (.iload_n 3, 1) := by decide +kernel
theorem d_NA_spells_32 : decode M_NA_spells.2.1 32 = .ok (.invokevirtual 49, 3) := by decide +kernel
theorem d_NA_spells_35 : decode M_NA_spells.2.1 35 = .ok (.if_icmp .eq 5, 3) := by decide +kernel
theorem d_NA_spells_38 : decode M_NA_spells.2.1 38 = .ok (.iconst 0, 1) := by decide +kernel
theorem d_NA_spells_39 : decode M_NA_spells.2.1 39 = .ok (.ireturn, 1) := by decide +kernel
theorem d_NA_spells_40 : decode M_NA_spells.2.1 40 = .ok (.iinc 3 1, 3) := by decide +kernel
theorem d_NA_spells_43 : decode M_NA_spells.2.1 43 = .ok (.goto (-27), 3) := by decide +kernel
theorem d_NA_spells_46 : decode M_NA_spells.2.1 46 = .ok (.iconst 1, 1) := by decide +kernel
theorem d_NA_spells_47 : decode M_NA_spells.2.1 47 = .ok (.ireturn, 1) := by decide +kernel
theorem g_lnS2 : ∀ s, s < 33 → x_lenS.getD s 0 = (x_bytS.getD s []).length := by decide +kernel
set_option maxRecDepth 20000 in
theorem w_NA_spells {E : xR} {h : xH} {sz te : Int32} {TX FR NX FS : Nat → Int32} {T : List (List Int32)} {k : Nat} {w : List Int32} (hA : g_NA g_H T TX FR NX FS) (hk : g_nt T k = some w) (hk9 : k < 9000) (ht : g_tot T ≤ 5000) {s : Nat} (hs : s < 33) : x_Mt E M_NA_spells 4 0 0 [.ref 31, .int (nI k), .ref (2000000 + s)] 52 (g_nw h sz te TX FR NX FS) (x_Y (some (.int (g_b2 (decide (w = (x_bytS.getD s [])))))) 52 (g_nw h sz te TX FR NX FS)) := by
  obtain ⟨f0, f1⟩ := g_NAf hA hk
  have hof := g_ofM T k w hk
  have hL := g_lnS2 s hs
  have hL9 : (x_bytS.getD s []).length < 100 := by rw [← hL]; exact (show ∀ s, s < 33 → x_lenS.getD s 0 < 100 by decide) s hs
  refine x_Mt.of (by decide) (Nat.le_of_ble_eq_true rfl) ?_
  have hloop : w.length = (x_bytS.getD s []).length → ∀ m i, i + m = (x_bytS.getD s []).length → (∀ j (h1 : j < w.length) (h2 : j < (x_bytS.getD s []).length), j < i → w[j] = (x_bytS.getD s [])[j]) → x_W E M_NA_spells (x_room 4 0 0) (x_Y (some (.int (g_b2 (decide (w = (x_bytS.getD s [])))))) 52 (g_nw h sz te TX FR NX FS)) 52 (g_nw h sz te TX FR NX FS) 16 [(0, .ref 31), (1, .int (nI k)), (2, .ref (2000000 + s)), (3, .int (nI i))] [] 0 0 := by
    intro hlen m
    induction m with
    | zero =>
      intro i hi hj
      obtain rfl : i = (x_bytS.getD s []).length := by omega
      refine x_iload_n d_NA_spells_16 rfl rfl ?_
      refine x_aload_n d_NA_spells_17 rfl rfl ?_
      refine x_callT0Y d_NA_spells_18 k_NA_40 rfl (by omega) (w_ST_length hs) (Nat.le_of_ble_eq_true rfl) (Nat.le_of_ble_eq_true rfl) (Nat.le_of_ble_eq_true rfl) (Nat.le_of_ble_eq_true rfl) (Nat.le_of_ble_eq_true rfl) rfl ?_
      refine x_topi (nI (x_bytS.getD s []).length) (by rw [hL]) ?_
      refine x_icmp_ge 46 d_NA_spells_21 (by decide) (fun _ => ?_) (fun z => absurd (nI_le (Nat.le_refl _) (by omega)) z)
      refine x_iconst 1 d_NA_spells_46 (by decide) ?_
      exact x_ireturn d_NA_spells_47 rfl rfl ⟨congrArg (fun z => Sum.inl (some (Value.int (g_b2 z)))) (show true = decide (w = (x_bytS.getD s [])) from (decide_eq_true (List.ext_getElem hlen fun j a b => hj j a b b)).symm), rfl, fun _ _ => rfl, rfl, rfl⟩
    | succ m ih =>
      intro i hi hj
      have hiw : i < w.length := by omega
      have hib : i < (x_bytS.getD s []).length := by omega
      refine x_iload_n d_NA_spells_16 rfl rfl ?_
      refine x_aload_n d_NA_spells_17 rfl rfl ?_
      refine x_callT0Y d_NA_spells_18 k_NA_40 rfl (by omega) (w_ST_length hs) (Nat.le_of_ble_eq_true rfl) (Nat.le_of_ble_eq_true rfl) (Nat.le_of_ble_eq_true rfl) (Nat.le_of_ble_eq_true rfl) (Nat.le_of_ble_eq_true rfl) rfl ?_
      refine x_topi (nI (x_bytS.getD s []).length) (by rw [hL]) ?_
      refine x_icmp_ge 46 d_NA_spells_21 (by decide) (fun z => absurd z (nI_ge (by omega) (by omega))) (fun _ => ?_)
      refine x_aload_n d_NA_spells_24 rfl rfl ?_
      refine x_iload_n d_NA_spells_25 rfl rfl ?_
      refine x_iload_n d_NA_spells_26 rfl rfl ?_
      refine x_callV2Y d_NA_spells_27 k_NA_45 (Nat.le_of_ble_eq_true rfl) (Nat.le_of_ble_eq_true rfl) (by first | rfl | assumption) (by rfl) (w_NA_at hA hk hk9 ht hiw) (Nat.le_of_ble_eq_true rfl) (Nat.le_of_ble_eq_true rfl) (Nat.le_of_ble_eq_true rfl) (Nat.le_of_ble_eq_true rfl) (Nat.le_of_ble_eq_true rfl) rfl ?_
      refine x_aload_n d_NA_spells_30 rfl rfl ?_
      refine x_iload_n d_NA_spells_31 rfl rfl ?_
      refine x_callT1Y d_NA_spells_32 k_NA_49 rfl (by omega) (w_ST_charAt hs (k := i) (by rw [hL]; exact hib)) (Nat.le_of_ble_eq_true rfl) (Nat.le_of_ble_eq_true rfl) (Nat.le_of_ble_eq_true rfl) (Nat.le_of_ble_eq_true rfl) (Nat.le_of_ble_eq_true rfl) rfl ?_
      refine x_topi ((x_bytS.getD s [])[i]'hib) (by rw [List.getD_eq_getElem?_getD, List.getElem?_eq_getElem hib]; rfl) ?_
      refine x_icmp_eq 40 d_NA_spells_35 (by decide) (fun c_35 => ?_) (fun c_35 => ?_)
      · refine x_iinc d_NA_spells_40 rfl 1 (by decide) (Nat.le_of_ble_eq_true rfl) ?_
        refine x_goto 16 d_NA_spells_43 (by decide) ?_
        refine x_lv [(0, .ref 31), (1, .int (nI k)), (2, .ref (2000000 + s)), (3, .int (nI (i + 1)))] (by rw [nI_succ i]; rfl) ?_
        exact ih (i + 1) (by omega) (fun j a b q => by
          rcases Nat.lt_or_ge j i with z | z
          · exact hj j a b z
          · obtain rfl : j = i := by omega
            exact c_35)
      · refine x_iconst 0 d_NA_spells_38 (by decide) ?_
        exact x_ireturn d_NA_spells_39 rfl rfl ⟨congrArg (fun z => Sum.inl (some (Value.int (g_b2 z)))) (show false = decide (w = (x_bytS.getD s [])) from (decide_eq_false (fun z => by subst z; exact c_35 rfl)).symm), rfl, fun _ _ => rfl, rfl, rfl⟩
  show x_W E M_NA_spells _ _ 52 (g_nw h sz te TX FR NX FS) 0 [(0, .ref 31), (1, .int (nI k)), (2, .ref (2000000 + s))] [] 0 0
  refine x_aload_n d_NA_spells_0 rfl rfl ?_
  refine x_iload_n d_NA_spells_1 rfl rfl ?_
  refine x_callV1Y d_NA_spells_2 k_NA_36 (Nat.le_of_ble_eq_true rfl) (Nat.le_of_ble_eq_true rfl) (by first | rfl | assumption) (by rfl) (w_NA_length hA hk hk9 ht) (Nat.le_of_ble_eq_true rfl) (Nat.le_of_ble_eq_true rfl) (Nat.le_of_ble_eq_true rfl) (Nat.le_of_ble_eq_true rfl) (Nat.le_of_ble_eq_true rfl) rfl ?_
  refine x_aload_n d_NA_spells_5 rfl rfl ?_
  refine x_callT0Y d_NA_spells_6 k_NA_40 rfl (by omega) (w_ST_length hs) (Nat.le_of_ble_eq_true rfl) (Nat.le_of_ble_eq_true rfl) (Nat.le_of_ble_eq_true rfl) (Nat.le_of_ble_eq_true rfl) (Nat.le_of_ble_eq_true rfl) rfl ?_
  refine x_topi (nI (x_bytS.getD s []).length) (by rw [hL]) ?_
  refine x_icmp_eq 14 d_NA_spells_9 (by decide) (fun c_9 => ?_) (fun c_9 => ?_)
  · refine x_iconst 0 d_NA_spells_14 (by decide) ?_
    refine x_istore_n d_NA_spells_15 rfl (Nat.le_of_ble_eq_true rfl) ?_
    exact hloop ((g_nIne (by omega) (by omega)).mp c_9) (x_bytS.getD s []).length 0 (by omega) (fun j a b q => by omega)
  · refine x_iconst 0 d_NA_spells_12 (by decide) ?_
    exact x_ireturn d_NA_spells_13 rfl rfl ⟨congrArg (fun z => Sum.inl (some (Value.int (g_b2 z)))) (show false = decide (w = (x_bytS.getD s [])) from (decide_eq_false (fun z => c_9 (by rw [z]))).symm), rfl, fun _ _ => rfl, rfl, rfl⟩
