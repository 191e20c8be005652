theorem g_and7 (x : Int32) : ∃ m, m < 8 ∧ x &&& 7 = nI m := by
  refine ⟨(x.toBitVec &&& 7#32).toNat, ?_, ?_⟩
  · rw [BitVec.toNat_and]
    exact Nat.lt_of_le_of_lt Nat.and_le_right (by decide)
  · apply Int32.toBitVec_inj.mp
    show x.toBitVec &&& 7#32 = (nI (x.toBitVec &&& 7#32).toNat).toBitVec
    show _ = BitVec.ofNat 32 _
    rw [BitVec.ofNat_toNat, BitVec.setWidth_eq]
theorem g_sub6 {L : Nat} (hL : L ≤ 3072) : (nI L - 6).toInt = (L : Int) - 6 := by
  rw [Int32.toInt_sub, nI_toInt (by omega)]
  show ((L : Int) - 6).bmod (2 ^ 32) = _
  rw [Int.bmod_eq_of_le (by omega) (by omega)]
theorem g_gt6 {i L : Nat} (hL : L ≤ 3072) (hi : i ≤ 6000) : nI L - 6 < nI i ↔ L < i + 6 := by
  rw [Int32.lt_iff_toInt_lt, g_sub6 hL, nI_toInt (by omega)]
  omega
/-- what the law comes to: every answer is the reference's -/
def g_LQ : xK := fun o _ _ k j => o = .inl (some (.int 1)) ∧ k ≤ 601024 ∧ j ≤ 7293034
theorem g_cpE {P0 P1 R0 : Nat → Int32} {l : List Int32} (hl : l.length ≤ 4096) : ∀ i, i < l.length → g_ps P0 0 l i = g_cp (g_ps P1 0 l) R0 l.length i := by
  intro i hi
  have a := g_psI l P0 0 i hi (by omega)
  have b := g_psI l P1 0 i hi (by omega)
  rw [Nat.zero_add] at a b
  unfold g_cp
  rw [if_pos hi, a, b, g_nar2]
set_option maxRecDepth 20000 in
theorem w_L_read {E : xR} {h : xH} {Q : xK} {i cc ss : Nat} (hnt : ¬ x_tg E) (hs9 : x_sL E ≤ 3072) (hi : i + 6 ≤ x_sL E) (hI : g_LVI h) (hcc : cc + 1 ≤ 601024) (hss : ss + 6 ≤ 7293034) (K : ∀ h' c' s', g_LVI h' → c' ≤ cc + 1 → s' ≤ ss + 6 → x_W E M_LA_law room_1 Q 52 h' 451 [(0, .ref 4000000), (1, .ref 0), (2, .ref 21), (3, .ref 51), (4, .int (nI i))] [] c' s') : x_W E M_LA_law room_1 Q 52 h 240 [(0, .ref 4000000), (1, .ref 0), (2, .ref 21), (3, .ref 51), (4, .int (nI i))] [] cc ss := by
  obtain ⟨u, N, ra, rl, sy, va, ne, bk, Rs, Rs2, th, g, hu, hN, hra, hrl, hC, hM, hRR, ho⟩ := hI
  obtain ⟨c0, c1, c2, ⟨w0, w1, w2, w3, w4, w5, w6, c3⟩, c5, c15, c16, c17, cR, cP⟩ := id hC
  obtain ⟨m21, m22, m23, mr⟩ := id hM
  rcases hra with rfl | rfl
  · refine x_aload_n d_LA_law_240 rfl rfl ?_
    refine x_aload_n d_LA_law_241 rfl rfl ?_
    refine x_callS2 d_LA_law_242 k_LA_54 (w_LA_read19 hC hu hN hnt ho) (Nat.le_of_ble_eq_true rfl) (Nat.le_of_ble_eq_true rfl) (by show _ ≤ 601024; omega) (by show _ ≤ 7293034; omega) (Nat.le_of_ble_eq_true rfl) rfl (fun z => absurd z hnt) (fun v n' h' k j hq => ?_) (fun q n' h' k j hq => ?_)
    · obtain ⟨rfl, hMI, hq⟩ := hq
      have hM2 := g_MMS hM hMI
      cases hall : g_all u N with
      | inl x =>
        rw [hall] at hq
        obtain ⟨e, rfl, rfl, h51, hC2⟩ := hq
        cases e
        refine x_istore d_LA_law_245 (Nat.le_of_ble_eq_true rfl) ?_
        refine x_aload_n d_LA_law_247 rfl rfl ?_
        refine x_callV0E d_LA_law_248 k_LA_57 (Nat.le_of_ble_eq_true rfl) (Nat.le_of_ble_eq_true rfl) hM2.1 (by rfl) (w_MO_read hM2 hu hN hnt) (Nat.le_of_ble_eq_true rfl) (Nat.le_of_ble_eq_true rfl) (by show _ ≤ 601024; omega) (by show _ ≤ 7293034; omega) (Nat.le_of_ble_eq_true rfl) rfl (fun v1 hh1 hp1 => ?_)
        unfold g_MRP at hp1
        rw [hall] at hp1
        obtain ⟨hCS, rfl, hmm⟩ := hp1
        refine x_istore d_LA_law_251 (Nat.le_of_ble_eq_true rfl) ?_
        refine x_aload_n d_LA_law_253 rfl rfl ?_
        refine x_callV0Y d_LA_law_254 k_LA_47 (Nat.le_of_ble_eq_true rfl) (Nat.le_of_ble_eq_true rfl) hmm.1 (by rfl) (w_MO_thrown hmm.1) (Nat.le_of_ble_eq_true rfl) (Nat.le_of_ble_eq_true rfl) (by show _ ≤ 601024; omega) (by show _ ≤ 7293034; omega) (Nat.le_of_ble_eq_true rfl) rfl ?_
        refine x_iload d_LA_law_257 rfl ?_
        refine x_icmp_eq 264 d_LA_law_259 (by decide) (fun _ => ?_) (fun z => absurd rfl z)
        refine x_iload d_LA_law_264 rfl ?_
        refine x_if_ne 281 d_LA_law_266 (by decide) (fun _ => ?_) (fun z => absurd z (by decide))
        refine x_goto 451 d_LA_law_281 (by decide) ?_
        refine x_lv [(0, .ref 4000000), (1, .ref 0), (2, .ref 21), (3, .ref 51), (4, .int (nI i)), (5, .int 1), (6, .int 0)] rfl ?_
        refine x_wk [(0, .ref 4000000), (1, .ref 0), (2, .ref 21), (3, .ref 51), (4, .int (nI i))] (by simp) ?_
        exact K _ _ _ ⟨u, 0, 19, rl, sy, va, ne, nI x, Rs, Rs2, 1, g, hu, by decide, (by decide), hrl, g_CWS (by decide) hC2 hCS.1, hmm, hRR, hCS.2.trans (h51.trans ho)⟩ (by omega) (by omega)
      | inr p =>
        obtain ⟨s, V, t⟩ := p
        rw [hall] at hq
        have hq : if 4096 < (g_pt u t).length then _ else _ := hq
        by_cases hp : 4096 < (g_pt u t).length
        · rw [if_pos hp] at hq
          obtain ⟨e, rfl, rfl, h51, hC2⟩ := hq
          cases e
          refine x_istore d_LA_law_245 (Nat.le_of_ble_eq_true rfl) ?_
          refine x_aload_n d_LA_law_247 rfl rfl ?_
          refine x_callV0E d_LA_law_248 k_LA_57 (Nat.le_of_ble_eq_true rfl) (Nat.le_of_ble_eq_true rfl) hM2.1 (by rfl) (w_MO_read hM2 hu hN hnt) (Nat.le_of_ble_eq_true rfl) (Nat.le_of_ble_eq_true rfl) (by show _ ≤ 601024; omega) (by show _ ≤ 7293034; omega) (Nat.le_of_ble_eq_true rfl) rfl (fun v1 hh1 hp1 => ?_)
          unfold g_MRP at hp1
          rw [hall] at hp1
          obtain ⟨hCS, hp1⟩ := hp1
          have hp1 : if 4096 < (g_pt u t).length then _ else _ := hp1
          rw [if_pos hp] at hp1
          obtain ⟨rfl, hmm⟩ := hp1
          refine x_istore d_LA_law_251 (Nat.le_of_ble_eq_true rfl) ?_
          refine x_aload_n d_LA_law_253 rfl rfl ?_
          refine x_callV0Y d_LA_law_254 k_LA_47 (Nat.le_of_ble_eq_true rfl) (Nat.le_of_ble_eq_true rfl) hmm.1 (by rfl) (w_MO_thrown hmm.1) (Nat.le_of_ble_eq_true rfl) (Nat.le_of_ble_eq_true rfl) (by show _ ≤ 601024; omega) (by show _ ≤ 7293034; omega) (Nat.le_of_ble_eq_true rfl) rfl ?_
          refine x_iload d_LA_law_257 rfl ?_
          refine x_icmp_eq 264 d_LA_law_259 (by decide) (fun _ => ?_) (fun z => absurd rfl z)
          refine x_iload d_LA_law_264 rfl ?_
          refine x_if_ne 281 d_LA_law_266 (by decide) (fun _ => ?_) (fun z => absurd z (by decide))
          refine x_goto 451 d_LA_law_281 (by decide) ?_
          refine x_lv [(0, .ref 4000000), (1, .ref 0), (2, .ref 21), (3, .ref 51), (4, .int (nI i)), (5, .int 2), (6, .int 0)] rfl ?_
          refine x_wk [(0, .ref 4000000), (1, .ref 0), (2, .ref 21), (3, .ref 51), (4, .int (nI i))] (by simp) ?_
          exact K _ _ _ ⟨u, 0, 19, rl, sy, va, ne, -1, Rs, Rs2, 2, g, hu, by decide, (by decide), hrl, g_CWS (by decide) hC2 hCS.1, hmm, hRR, hCS.2.trans (h51.trans ho)⟩ (by omega) (by omega)
        · rw [if_neg hp] at hq
          obtain ⟨e, rfl, rfl, ⟨g2, h51⟩, P0, hC2⟩ := hq
          cases e
          refine x_istore d_LA_law_245 (Nat.le_of_ble_eq_true rfl) ?_
          refine x_aload_n d_LA_law_247 rfl rfl ?_
          refine x_callV0E d_LA_law_248 k_LA_57 (Nat.le_of_ble_eq_true rfl) (Nat.le_of_ble_eq_true rfl) hM2.1 (by rfl) (w_MO_read hM2 hu hN hnt) (Nat.le_of_ble_eq_true rfl) (Nat.le_of_ble_eq_true rfl) (by show _ ≤ 601024; omega) (by show _ ≤ 7293034; omega) (Nat.le_of_ble_eq_true rfl) rfl (fun v1 hh1 hp1 => ?_)
          unfold g_MRP at hp1
          rw [hall] at hp1
          obtain ⟨hCS, hp1⟩ := hp1
          have hp1 : if 4096 < (g_pt u t).length then _ else _ := hp1
          rw [if_neg hp] at hp1
          obtain ⟨rfl, P1, R1, hmm⟩ := hp1
          have h51b := hCS.2.trans h51
          refine x_istore d_LA_law_251 (Nat.le_of_ble_eq_true rfl) ?_
          refine x_aload_n d_LA_law_253 rfl rfl ?_
          refine x_callV0Y d_LA_law_254 k_LA_47 (Nat.le_of_ble_eq_true rfl) (Nat.le_of_ble_eq_true rfl) hmm.1 (by rfl) (w_MO_thrown hmm.1) (Nat.le_of_ble_eq_true rfl) (Nat.le_of_ble_eq_true rfl) (by show _ ≤ 601024; omega) (by show _ ≤ 7293034; omega) (Nat.le_of_ble_eq_true rfl) rfl ?_
          refine x_iload d_LA_law_257 rfl ?_
          refine x_icmp_eq 264 d_LA_law_259 (by decide) (fun _ => ?_) (fun z => absurd rfl z)
          refine x_iload d_LA_law_264 rfl ?_
          refine x_if_ne 281 d_LA_law_266 (by decide) (fun z => absurd rfl z) (fun _ => ?_)
          refine x_aload_n d_LA_law_269 rfl rfl ?_
          refine x_iconst 0 d_LA_law_270 (by decide) ?_
          refine x_lald d_LA_law_271 (Nat.le_of_ble_eq_true rfl) (Nat.le_of_ble_eq_true rfl) (by first | rfl | assumption) (vp_in_nI (by decide) (by decide)) ?_
          refine x_topl (nI (g_pt u t).length).toInt64 rfl ?_
          refine x_iload d_LA_law_272 rfl ?_
          refine x_i2l d_LA_law_274 ?_
          refine x_lcmp d_LA_law_275 ?_
          refine x_if_eq 281 d_LA_law_276 (by decide) (fun _ => ?_) (fun z => absurd (g_cmp0 _) z)
          refine x_goto 451 d_LA_law_281 (by decide) ?_
          refine x_lv [(0, .ref 4000000), (1, .ref 0), (2, .ref 21), (3, .ref 51), (4, .int (nI i)), (5, .int 0), (6, .int (nI (g_pt u t).length))] rfl ?_
          refine x_wk [(0, .ref 4000000), (1, .ref 0), (2, .ref 21), (3, .ref 51), (4, .int (nI i))] (by simp) ?_
          exact K _ _ _ ⟨u, 0, 20, (g_pt u t).length, nI s, nI V.length, nI (g_dt t), -1, _, _, 0, _, hu, by decide, (by decide), by omega, g_CWS (by decide) hC2 hCS.1, hmm, g_cpE (by omega), h51b⟩ (by omega) (by omega)
    · obtain ⟨-, -, hq⟩ := hq
      cases hall : g_all u N with
      | inl x => rw [hall] at hq; cases hq.1
      | inr p =>
        obtain ⟨s, V, t⟩ := p
        rw [hall] at hq
        have hq : if 4096 < (g_pt u t).length then _ else _ := hq
        by_cases hp : 4096 < (g_pt u t).length
        · rw [if_pos hp] at hq; cases hq.1
        · rw [if_neg hp] at hq; cases hq.1
  · refine x_aload_n d_LA_law_240 rfl rfl ?_
    refine x_aload_n d_LA_law_241 rfl rfl ?_
    refine x_callS2 d_LA_law_242 k_LA_54 (w_LA_read20 hC hu hN hnt ho) (Nat.le_of_ble_eq_true rfl) (Nat.le_of_ble_eq_true rfl) (by show _ ≤ 601024; omega) (by show _ ≤ 7293034; omega) (Nat.le_of_ble_eq_true rfl) rfl (fun z => absurd z hnt) (fun v n' h' k j hq => ?_) (fun q n' h' k j hq => ?_)
    · obtain ⟨rfl, hMI, hq⟩ := hq
      have hM2 := g_MMS hM hMI
      cases hall : g_all u N with
      | inl x =>
        rw [hall] at hq
        obtain ⟨e, rfl, rfl, h51, hC2⟩ := hq
        cases e
        refine x_istore d_LA_law_245 (Nat.le_of_ble_eq_true rfl) ?_
        refine x_aload_n d_LA_law_247 rfl rfl ?_
        refine x_callV0E d_LA_law_248 k_LA_57 (Nat.le_of_ble_eq_true rfl) (Nat.le_of_ble_eq_true rfl) hM2.1 (by rfl) (w_MO_read hM2 hu hN hnt) (Nat.le_of_ble_eq_true rfl) (Nat.le_of_ble_eq_true rfl) (by show _ ≤ 601024; omega) (by show _ ≤ 7293034; omega) (Nat.le_of_ble_eq_true rfl) rfl (fun v1 hh1 hp1 => ?_)
        unfold g_MRP at hp1
        rw [hall] at hp1
        obtain ⟨hCS, rfl, hmm⟩ := hp1
        refine x_istore d_LA_law_251 (Nat.le_of_ble_eq_true rfl) ?_
        refine x_aload_n d_LA_law_253 rfl rfl ?_
        refine x_callV0Y d_LA_law_254 k_LA_47 (Nat.le_of_ble_eq_true rfl) (Nat.le_of_ble_eq_true rfl) hmm.1 (by rfl) (w_MO_thrown hmm.1) (Nat.le_of_ble_eq_true rfl) (Nat.le_of_ble_eq_true rfl) (by show _ ≤ 601024; omega) (by show _ ≤ 7293034; omega) (Nat.le_of_ble_eq_true rfl) rfl ?_
        refine x_iload d_LA_law_257 rfl ?_
        refine x_icmp_eq 264 d_LA_law_259 (by decide) (fun _ => ?_) (fun z => absurd rfl z)
        refine x_iload d_LA_law_264 rfl ?_
        refine x_if_ne 281 d_LA_law_266 (by decide) (fun _ => ?_) (fun z => absurd z (by decide))
        refine x_goto 451 d_LA_law_281 (by decide) ?_
        refine x_lv [(0, .ref 4000000), (1, .ref 0), (2, .ref 21), (3, .ref 51), (4, .int (nI i)), (5, .int 1), (6, .int 0)] rfl ?_
        refine x_wk [(0, .ref 4000000), (1, .ref 0), (2, .ref 21), (3, .ref 51), (4, .int (nI i))] (by simp) ?_
        exact K _ _ _ ⟨u, 0, 20, rl, sy, va, ne, nI x, Rs, Rs2, 1, g, hu, by decide, (by decide), hrl, g_CWS (by decide) hC2 hCS.1, hmm, hRR, hCS.2.trans (h51.trans ho)⟩ (by omega) (by omega)
      | inr p =>
        obtain ⟨s, V, t⟩ := p
        rw [hall] at hq
        have hq : if 4096 < (g_pt u t).length then _ else _ := hq
        by_cases hp : 4096 < (g_pt u t).length
        · rw [if_pos hp] at hq
          obtain ⟨e, rfl, rfl, h51, hC2⟩ := hq
          cases e
          refine x_istore d_LA_law_245 (Nat.le_of_ble_eq_true rfl) ?_
          refine x_aload_n d_LA_law_247 rfl rfl ?_
          refine x_callV0E d_LA_law_248 k_LA_57 (Nat.le_of_ble_eq_true rfl) (Nat.le_of_ble_eq_true rfl) hM2.1 (by rfl) (w_MO_read hM2 hu hN hnt) (Nat.le_of_ble_eq_true rfl) (Nat.le_of_ble_eq_true rfl) (by show _ ≤ 601024; omega) (by show _ ≤ 7293034; omega) (Nat.le_of_ble_eq_true rfl) rfl (fun v1 hh1 hp1 => ?_)
          unfold g_MRP at hp1
          rw [hall] at hp1
          obtain ⟨hCS, hp1⟩ := hp1
          have hp1 : if 4096 < (g_pt u t).length then _ else _ := hp1
          rw [if_pos hp] at hp1
          obtain ⟨rfl, hmm⟩ := hp1
          refine x_istore d_LA_law_251 (Nat.le_of_ble_eq_true rfl) ?_
          refine x_aload_n d_LA_law_253 rfl rfl ?_
          refine x_callV0Y d_LA_law_254 k_LA_47 (Nat.le_of_ble_eq_true rfl) (Nat.le_of_ble_eq_true rfl) hmm.1 (by rfl) (w_MO_thrown hmm.1) (Nat.le_of_ble_eq_true rfl) (Nat.le_of_ble_eq_true rfl) (by show _ ≤ 601024; omega) (by show _ ≤ 7293034; omega) (Nat.le_of_ble_eq_true rfl) rfl ?_
          refine x_iload d_LA_law_257 rfl ?_
          refine x_icmp_eq 264 d_LA_law_259 (by decide) (fun _ => ?_) (fun z => absurd rfl z)
          refine x_iload d_LA_law_264 rfl ?_
          refine x_if_ne 281 d_LA_law_266 (by decide) (fun _ => ?_) (fun z => absurd z (by decide))
          refine x_goto 451 d_LA_law_281 (by decide) ?_
          refine x_lv [(0, .ref 4000000), (1, .ref 0), (2, .ref 21), (3, .ref 51), (4, .int (nI i)), (5, .int 2), (6, .int 0)] rfl ?_
          refine x_wk [(0, .ref 4000000), (1, .ref 0), (2, .ref 21), (3, .ref 51), (4, .int (nI i))] (by simp) ?_
          exact K _ _ _ ⟨u, 0, 20, rl, sy, va, ne, -1, Rs, Rs2, 2, g, hu, by decide, (by decide), hrl, g_CWS (by decide) hC2 hCS.1, hmm, hRR, hCS.2.trans (h51.trans ho)⟩ (by omega) (by omega)
        · rw [if_neg hp] at hq
          obtain ⟨e, rfl, rfl, ⟨g2, h51⟩, P0, hC2⟩ := hq
          cases e
          refine x_istore d_LA_law_245 (Nat.le_of_ble_eq_true rfl) ?_
          refine x_aload_n d_LA_law_247 rfl rfl ?_
          refine x_callV0E d_LA_law_248 k_LA_57 (Nat.le_of_ble_eq_true rfl) (Nat.le_of_ble_eq_true rfl) hM2.1 (by rfl) (w_MO_read hM2 hu hN hnt) (Nat.le_of_ble_eq_true rfl) (Nat.le_of_ble_eq_true rfl) (by show _ ≤ 601024; omega) (by show _ ≤ 7293034; omega) (Nat.le_of_ble_eq_true rfl) rfl (fun v1 hh1 hp1 => ?_)
          unfold g_MRP at hp1
          rw [hall] at hp1
          obtain ⟨hCS, hp1⟩ := hp1
          have hp1 : if 4096 < (g_pt u t).length then _ else _ := hp1
          rw [if_neg hp] at hp1
          obtain ⟨rfl, P1, R1, hmm⟩ := hp1
          have h51b := hCS.2.trans h51
          refine x_istore d_LA_law_251 (Nat.le_of_ble_eq_true rfl) ?_
          refine x_aload_n d_LA_law_253 rfl rfl ?_
          refine x_callV0Y d_LA_law_254 k_LA_47 (Nat.le_of_ble_eq_true rfl) (Nat.le_of_ble_eq_true rfl) hmm.1 (by rfl) (w_MO_thrown hmm.1) (Nat.le_of_ble_eq_true rfl) (Nat.le_of_ble_eq_true rfl) (by show _ ≤ 601024; omega) (by show _ ≤ 7293034; omega) (Nat.le_of_ble_eq_true rfl) rfl ?_
          refine x_iload d_LA_law_257 rfl ?_
          refine x_icmp_eq 264 d_LA_law_259 (by decide) (fun _ => ?_) (fun z => absurd rfl z)
          refine x_iload d_LA_law_264 rfl ?_
          refine x_if_ne 281 d_LA_law_266 (by decide) (fun z => absurd rfl z) (fun _ => ?_)
          refine x_aload_n d_LA_law_269 rfl rfl ?_
          refine x_iconst 0 d_LA_law_270 (by decide) ?_
          refine x_lald d_LA_law_271 (Nat.le_of_ble_eq_true rfl) (Nat.le_of_ble_eq_true rfl) (by first | rfl | assumption) (vp_in_nI (by decide) (by decide)) ?_
          refine x_topl (nI (g_pt u t).length).toInt64 rfl ?_
          refine x_iload d_LA_law_272 rfl ?_
          refine x_i2l d_LA_law_274 ?_
          refine x_lcmp d_LA_law_275 ?_
          refine x_if_eq 281 d_LA_law_276 (by decide) (fun _ => ?_) (fun z => absurd (g_cmp0 _) z)
          refine x_goto 451 d_LA_law_281 (by decide) ?_
          refine x_lv [(0, .ref 4000000), (1, .ref 0), (2, .ref 21), (3, .ref 51), (4, .int (nI i)), (5, .int 0), (6, .int (nI (g_pt u t).length))] rfl ?_
          refine x_wk [(0, .ref 4000000), (1, .ref 0), (2, .ref 21), (3, .ref 51), (4, .int (nI i))] (by simp) ?_
          exact K _ _ _ ⟨u, 0, 19, (g_pt u t).length, nI s, nI V.length, nI (g_dt t), -1, _, _, 0, _, hu, by decide, (by decide), by omega, g_CWS (by decide) hC2 hCS.1, hmm, g_cpE (by omega), h51b⟩ (by omega) (by omega)
    · obtain ⟨-, -, hq⟩ := hq
      cases hall : g_all u N with
      | inl x => rw [hall] at hq; cases hq.1
      | inr p =>
        obtain ⟨s, V, t⟩ := p
        rw [hall] at hq
        have hq : if 4096 < (g_pt u t).length then _ else _ := hq
        by_cases hp : 4096 < (g_pt u t).length
        · rw [if_pos hp] at hq; cases hq.1
        · rw [if_neg hp] at hq; cases hq.1
set_option maxRecDepth 20000 in
theorem w_L_451 {E : xR} {h : xH} {Q : xK} {i cc ss : Nat} (K : x_W E M_LA_law room_1 Q 52 h 23 [(0, .ref 4000000), (1, .ref 0), (2, .ref 21), (3, .ref 51), (4, .int (nI (i + 6)))] [] cc ss) : x_W E M_LA_law room_1 Q 52 h 451 [(0, .ref 4000000), (1, .ref 0), (2, .ref 21), (3, .ref 51), (4, .int (nI i))] [] cc ss := by
  refine x_iinc d_LA_law_451 rfl 6 (by decide) (Nat.le_of_ble_eq_true rfl) ?_
  refine x_goto 23 d_LA_law_454 (by decide) ?_
  refine x_lv [(0, .ref 4000000), (1, .ref 0), (2, .ref 21), (3, .ref 51), (4, .int (nI (i + 6)))] (by rw [← nI_add i 6]; rfl) ?_
  exact K
set_option maxRecDepth 20000 in
theorem w_L_loop {E : xR} (hnt : ¬ x_tg E) (hs9 : x_sL E ≤ 3072) : ∀ m i cc ss h, x_sL E ≤ i + 6 * m → i ≤ 3072 → cc + m ≤ 601024 → ss + 6 * m ≤ 7293034 → g_LVI h → x_W E M_LA_law room_1 g_LQ 52 h 23 [(0, .ref 4000000), (1, .ref 0), (2, .ref 21), (3, .ref 51), (4, .int (nI i))] [] cc ss := by
  intro m
  induction m with
  | zero =>
    intro i cc ss h hL hi hc hs hI
    refine x_iload d_LA_law_23 rfl ?_
    refine x_aload_n d_LA_law_25 rfl rfl ?_
    refine x_slen d_LA_law_26 ?_
    refine x_bipush 6 d_LA_law_27 (by decide) ?_
    refine x_isub d_LA_law_29 ?_
    refine x_icmp_gt 457 d_LA_law_30 (by decide) (fun _ => ?_) (fun z => absurd ((g_gt6 hs9 (by omega)).mpr (by omega)) z)
    refine x_iconst 1 d_LA_law_457 (by decide) ?_
    exact x_ireturn d_LA_law_458 rfl rfl ⟨rfl, by omega, by omega⟩
  | succ m ih =>
    intro i cc ss h hL hi hc hs hI
    by_cases hx : x_sL E < i + 6
    · refine x_iload d_LA_law_23 rfl ?_
      refine x_aload_n d_LA_law_25 rfl rfl ?_
      refine x_slen d_LA_law_26 ?_
      refine x_bipush 6 d_LA_law_27 (by decide) ?_
      refine x_isub d_LA_law_29 ?_
      refine x_icmp_gt 457 d_LA_law_30 (by decide) (fun _ => ?_) (fun z => absurd ((g_gt6 hs9 (by omega)).mpr hx) z)
      refine x_iconst 1 d_LA_law_457 (by decide) ?_
      exact x_ireturn d_LA_law_458 rfl rfl ⟨rfl, by omega, by omega⟩
    have hK : ∀ h' c' s', g_LVI h' → c' ≤ cc + 1 → s' ≤ ss + 6 → x_W E M_LA_law room_1 g_LQ 52 h' 451 [(0, .ref 4000000), (1, .ref 0), (2, .ref 21), (3, .ref 51), (4, .int (nI i))] [] c' s' := fun h' c' s' hI' h1 h2 => w_L_451 (ih (i + 6) c' s' h' (by omega) (by omega) (by omega) (by omega) hI')
    refine x_iload d_LA_law_23 rfl ?_
    refine x_aload_n d_LA_law_25 rfl rfl ?_
    refine x_slen d_LA_law_26 ?_
    refine x_bipush 6 d_LA_law_27 (by decide) ?_
    refine x_isub d_LA_law_29 ?_
    refine x_icmp_gt 457 d_LA_law_30 (by decide) (fun z => absurd z (fun y => hx ((g_gt6 hs9 (by omega)).mp y))) (fun _ => ?_)
    refine x_aload_n d_LA_law_33 rfl rfl ?_
    refine x_iload d_LA_law_34 rfl ?_
    refine x_sld d_LA_law_36 (vp_in_nI (show i < x_sL E by omega) (by omega)) ?_
    refine x_bipush 7 d_LA_law_37 (by decide) ?_
    refine x_iand d_LA_law_39 ?_
    obtain ⟨k, hk, hke⟩ := g_and7 (x_sx E (nI i).toNatClampNeg)
    refine x_topi (nI k) hke ?_
    obtain rfl | rfl | rfl | rfl | rfl | rfl | rfl | rfl : k = 0 ∨ k = 1 ∨ k = 2 ∨ k = 3 ∨ k = 4 ∨ k = 5 ∨ k = 6 ∨ k = 7 := by omega
    · exact x_tableIn (off := 40) 80 d_LA_law_40 (by decide) (by decide) (by decide) (by decide) (w_L_feed hnt hs9 (by omega) hI (by omega) (by omega) hK)
    · exact x_tableIn (off := 144) 184 d_LA_law_40 (by decide) (by decide) (by decide) (by decide) (w_L_end hnt hs9 (by omega) hI (by omega) (by omega) hK)
    · exact x_tableIn (off := 200) 240 d_LA_law_40 (by decide) (by decide) (by decide) (by decide) (w_L_read hnt hs9 (by omega) hI (by omega) (by omega) hK)
    · exact x_tableIn (off := 244) 284 d_LA_law_40 (by decide) (by decide) (by decide) (by decide) (w_L_about hnt hs9 (by omega) hI (by omega) (by omega) hK)
    · exact x_tableIn (off := 300) 340 d_LA_law_40 (by decide) (by decide) (by decide) (by decide) (w_L_word hnt hs9 (by omega) hI (by omega) (by omega) hK)
    · exact x_tableIn (off := 355) 395 d_LA_law_40 (by decide) (by decide) (by decide) (by decide) (w_L_count hnt hs9 (by omega) hI (by omega) (by omega) hK)
    · exact x_tableOut 451 d_LA_law_40 (by decide) (by decide) (hK _ _ _ hI (by omega) (by omega))
    · exact x_tableOut 451 d_LA_law_40 (by decide) (by decide) (hK _ _ _ hI (by omega) (by omega))
