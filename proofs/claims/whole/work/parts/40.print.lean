/-- the world while the printer is at work: paper in cell ra; waiting, length, nesting, the arrays -/
def g_qw (h : xH) (ra : Nat) (wc ln ne : Int32) (Lv Wt Pp : Nat → Int32) : xH := x_up (x_up (x_up (x_up h 15 (.inr (4, [.ref 16, .ref 17, .int wc, .ref ra, .int ln, .int ne]))) 16 (.inl (0, 1001, .inl Lv))) 17 (.inl (0, 2000, .inl Wt))) ra (.inl (1, 4096, .inl Pp))
/-- one byte more on the paper -/
def g_pp (P : Nat → Int32) (n : Nat) (c : Int32) : Nat → Int32 := bif decide (n < 4096) then upd P n (vp_nar .byte c.toInt8.toInt32) else P
theorem d_PR_put_0 : decode M_PR_put.2.1 0 = .ok (.aload_n 0, 1) := by decide +kernel
theorem d_PR_put_1 : decode M_PR_put.2.1 1 = .ok (.getfield 22, 3) := by decide +kernel
theorem d_PR_put_4 : decode M_PR_put.2.1 4 = .ok (.aload_n 0, 1) := by decide +kernel
theorem d_PR_put_5 : decode M_PR_put.2.1 5 = .ok (.getfield 18, 3) := by decide +kernel
theorem d_PR_put_8 : decode M_PR_put.2.1 8 = .ok (.arraylength, 1) := by decide +kernel
theorem d_PR_put_9 : decode M_PR_put.2.1 9 = .ok (.if_icmp .ge 14, 3) := by decide +kernel
theorem d_PR_put_12 : decode M_PR_put.2.1 12 = .ok (.aload_n 0, 1) := by decide +kernel
theorem d_PR_put_13 : decode M_PR_put.2.1 13 = .ok (.getfield 18, 3) := by decide +kernel
theorem d_PR_put_16 : decode M_PR_put.2.1 16 = .ok (.aload_n 0, 1) := by decide +kernel
theorem d_PR_put_17 : decode M_PR_put.2.1 17 = .ok (.getfield 22, 3) := by decide +kernel
theorem d_PR_put_20 : decode M_PR_put.2.1 20 = .ok (.iload_n 1, 1) := by decide +kernel
theorem d_PR_put_21 : decode M_PR_put.2.1 21 = .ok (.i2b, 1) := by decide +kernel
theorem d_PR_put_22 : decode M_PR_put.2.1 22 = .ok (.bastore, 1) := by decide +kernel
theorem d_PR_put_23 : decode M_PR_put.2.1 23 = .ok (.aload_n 0, 1) := by decide +kernel
theorem d_PR_put_24 : decode M_PR_put.2.1 24 = .ok (.dup, 1) := by decide +kernel
theorem d_PR_put_25 : decode M_PR_put.2.1 25 = .ok (.getfield 22, 3) := by decide +kernel
theorem d_PR_put_28 : decode M_PR_put.2.1 28 = .ok (.iconst 1, 1) := by decide +kernel
theorem d_PR_put_29 : decode M_PR_put.2.1 29 = .ok (.iadd, 1) := by decide +kernel
theorem d_PR_put_30 : decode M_PR_put.2.1 30 = .ok (.putfield 22, 3) := by decide +kernel
theorem d_PR_put_33 : decode M_PR_put.2.1 33 = .ok (.return_, 1) := by decide +kernel
set_option maxRecDepth 20000 in
theorem w_PR_put {E : xR} {h : xH} {ra ln : Nat} {wc ne : Int32} {Lv Wt Pp : Nat → Int32} {c : Int32} (hra : ra = 19 ∨ ra = 20) (hl : ln < 2 ^ 30) : x_Mt E M_PR_put 0 0 0 [.ref 15, .int c] 52 (g_qw h ra wc (nI ln) ne Lv Wt Pp) (x_Y none 52 (g_qw h ra wc (nI (ln + 1)) ne Lv Wt (g_pp Pp ln c))) := by
  rcases hra with rfl | rfl
  · refine x_Mt.of (by decide) (Nat.le_of_ble_eq_true rfl) ?_
    show x_W E M_PR_put _ _ 52 (g_qw h 19 wc (nI ln) ne Lv Wt Pp) 0 [(0, .ref 15), (1, .int c)] [] 0 0
    refine x_aload_n d_PR_put_0 rfl rfl ?_
    refine x_get d_PR_put_1 f_PR_22 (Nat.le_of_ble_eq_true rfl) (Nat.le_of_ble_eq_true rfl) (by first | rfl | assumption) (by rfl) ?_
    refine x_aload_n d_PR_put_4 rfl rfl ?_
    refine x_get d_PR_put_5 f_PR_18 (Nat.le_of_ble_eq_true rfl) (Nat.le_of_ble_eq_true rfl) (by first | rfl | assumption) (by rfl) ?_
    refine x_alen d_PR_put_8 (Nat.le_of_ble_eq_true rfl) (Nat.le_of_ble_eq_true rfl) (by first | rfl | assumption) (by rfl) ?_
    refine x_icmp_ge 23 d_PR_put_9 (by decide) (fun c_9 => ?_) (fun c_9 => ?_)
    · refine x_aload_n d_PR_put_23 rfl rfl ?_
      refine x_dup d_PR_put_24 rfl ?_
      refine x_get d_PR_put_25 f_PR_22 (Nat.le_of_ble_eq_true rfl) (Nat.le_of_ble_eq_true rfl) (by first | rfl | assumption) (by rfl) ?_
      refine x_iconst 1 d_PR_put_28 (by decide) ?_
      refine x_iadd d_PR_put_29 ?_
      have hge : ¬ ln < 4096 := fun q => absurd c_9 (nI_ge q (show 4096 < 2 ^ 31 by decide))
      refine x_topi (nI (ln + 1)) (nI_succ ln).symm ?_
      refine x_put d_PR_put_30 f_PR_22 (Nat.le_of_ble_eq_true rfl) (Nat.le_of_ble_eq_true rfl) (by first | rfl | assumption) (by rfl) (by rfl) (by exact (Nat.le_of_ble_eq_true rfl)) ?_
      exact x_return d_PR_put_33 rfl ⟨rfl, rfl, x_pt rfl rfl rfl rfl rfl rfl rfl rfl rfl rfl rfl rfl rfl rfl rfl rfl rfl rfl rfl (show Sum.inl (1, 4096, Sum.inl _) = Sum.inl (1, 4096, Sum.inl (g_pp Pp ln c)) by unfold g_pp; rw [decide_eq_false hge]; rfl) rfl rfl rfl rfl rfl rfl rfl rfl rfl rfl rfl rfl rfl rfl rfl rfl rfl rfl rfl rfl rfl rfl rfl rfl rfl rfl rfl rfl rfl rfl rfl rfl, rfl, rfl⟩
    · have hlt : ln < 4096 := Nat.not_le.mp fun q => c_9 (nI_le q (by omega))
      refine x_aload_n d_PR_put_12 rfl rfl ?_
      refine x_get d_PR_put_13 f_PR_18 (Nat.le_of_ble_eq_true rfl) (Nat.le_of_ble_eq_true rfl) (by first | rfl | assumption) (by rfl) ?_
      refine x_aload_n d_PR_put_16 rfl rfl ?_
      refine x_get d_PR_put_17 f_PR_22 (Nat.le_of_ble_eq_true rfl) (Nat.le_of_ble_eq_true rfl) (by first | rfl | assumption) (by rfl) ?_
      refine x_iload_n d_PR_put_20 rfl rfl ?_
      refine x_i2b d_PR_put_21 ?_
      refine x_bast d_PR_put_22 (Nat.le_of_ble_eq_true rfl) (Nat.le_of_ble_eq_true rfl) (by first | rfl | assumption) (vp_in_nI hlt (by decide)) ?_
      refine x_aload_n d_PR_put_23 rfl rfl ?_
      refine x_dup d_PR_put_24 rfl ?_
      refine x_get d_PR_put_25 f_PR_22 (Nat.le_of_ble_eq_true rfl) (Nat.le_of_ble_eq_true rfl) (by first | rfl | assumption) (by rfl) ?_
      refine x_iconst 1 d_PR_put_28 (by decide) ?_
      refine x_iadd d_PR_put_29 ?_
      refine x_topi (nI (ln + 1)) (nI_succ ln).symm ?_
      refine x_put d_PR_put_30 f_PR_22 (Nat.le_of_ble_eq_true rfl) (Nat.le_of_ble_eq_true rfl) (by first | rfl | assumption) (by rfl) (by rfl) (by exact (Nat.le_of_ble_eq_true rfl)) ?_
      exact x_return d_PR_put_33 rfl ⟨rfl, rfl, x_pt rfl rfl rfl rfl rfl rfl rfl rfl rfl rfl rfl rfl rfl rfl rfl rfl rfl rfl rfl (show Sum.inl (1, 4096, Sum.inl (upd _ (nI ln).toNatClampNeg _)) = _ by rw [nI_clamp (by omega)]; unfold g_pp; rw [decide_eq_true hlt]; rfl) rfl rfl rfl rfl rfl rfl rfl rfl rfl rfl rfl rfl rfl rfl rfl rfl rfl rfl rfl rfl rfl rfl rfl rfl rfl rfl rfl rfl rfl rfl rfl rfl, rfl, rfl⟩
  · refine x_Mt.of (by decide) (Nat.le_of_ble_eq_true rfl) ?_
    show x_W E M_PR_put _ _ 52 (g_qw h 20 wc (nI ln) ne Lv Wt Pp) 0 [(0, .ref 15), (1, .int c)] [] 0 0
    refine x_aload_n d_PR_put_0 rfl rfl ?_
    refine x_get d_PR_put_1 f_PR_22 (Nat.le_of_ble_eq_true rfl) (Nat.le_of_ble_eq_true rfl) (by first | rfl | assumption) (by rfl) ?_
    refine x_aload_n d_PR_put_4 rfl rfl ?_
    refine x_get d_PR_put_5 f_PR_18 (Nat.le_of_ble_eq_true rfl) (Nat.le_of_ble_eq_true rfl) (by first | rfl | assumption) (by rfl) ?_
    refine x_alen d_PR_put_8 (Nat.le_of_ble_eq_true rfl) (Nat.le_of_ble_eq_true rfl) (by first | rfl | assumption) (by rfl) ?_
    refine x_icmp_ge 23 d_PR_put_9 (by decide) (fun c_9 => ?_) (fun c_9 => ?_)
    · refine x_aload_n d_PR_put_23 rfl rfl ?_
      refine x_dup d_PR_put_24 rfl ?_
      refine x_get d_PR_put_25 f_PR_22 (Nat.le_of_ble_eq_true rfl) (Nat.le_of_ble_eq_true rfl) (by first | rfl | assumption) (by rfl) ?_
      refine x_iconst 1 d_PR_put_28 (by decide) ?_
      refine x_iadd d_PR_put_29 ?_
      have hge : ¬ ln < 4096 := fun q => absurd c_9 (nI_ge q (show 4096 < 2 ^ 31 by decide))
      refine x_topi (nI (ln + 1)) (nI_succ ln).symm ?_
      refine x_put d_PR_put_30 f_PR_22 (Nat.le_of_ble_eq_true rfl) (Nat.le_of_ble_eq_true rfl) (by first | rfl | assumption) (by rfl) (by rfl) (by exact (Nat.le_of_ble_eq_true rfl)) ?_
      exact x_return d_PR_put_33 rfl ⟨rfl, rfl, x_pt rfl rfl rfl rfl rfl rfl rfl rfl rfl rfl rfl rfl rfl rfl rfl rfl rfl rfl rfl rfl (show Sum.inl (1, 4096, Sum.inl _) = Sum.inl (1, 4096, Sum.inl (g_pp Pp ln c)) by unfold g_pp; rw [decide_eq_false hge]; rfl) rfl rfl rfl rfl rfl rfl rfl rfl rfl rfl rfl rfl rfl rfl rfl rfl rfl rfl rfl rfl rfl rfl rfl rfl rfl rfl rfl rfl rfl rfl rfl, rfl, rfl⟩
    · have hlt : ln < 4096 := Nat.not_le.mp fun q => c_9 (nI_le q (by omega))
      refine x_aload_n d_PR_put_12 rfl rfl ?_
      refine x_get d_PR_put_13 f_PR_18 (Nat.le_of_ble_eq_true rfl) (Nat.le_of_ble_eq_true rfl) (by first | rfl | assumption) (by rfl) ?_
      refine x_aload_n d_PR_put_16 rfl rfl ?_
      refine x_get d_PR_put_17 f_PR_22 (Nat.le_of_ble_eq_true rfl) (Nat.le_of_ble_eq_true rfl) (by first | rfl | assumption) (by rfl) ?_
      refine x_iload_n d_PR_put_20 rfl rfl ?_
      refine x_i2b d_PR_put_21 ?_
      refine x_bast d_PR_put_22 (Nat.le_of_ble_eq_true rfl) (Nat.le_of_ble_eq_true rfl) (by first | rfl | assumption) (vp_in_nI hlt (by decide)) ?_
      refine x_aload_n d_PR_put_23 rfl rfl ?_
      refine x_dup d_PR_put_24 rfl ?_
      refine x_get d_PR_put_25 f_PR_22 (Nat.le_of_ble_eq_true rfl) (Nat.le_of_ble_eq_true rfl) (by first | rfl | assumption) (by rfl) ?_
      refine x_iconst 1 d_PR_put_28 (by decide) ?_
      refine x_iadd d_PR_put_29 ?_
      refine x_topi (nI (ln + 1)) (nI_succ ln).symm ?_
      refine x_put d_PR_put_30 f_PR_22 (Nat.le_of_ble_eq_true rfl) (Nat.le_of_ble_eq_true rfl) (by first | rfl | assumption) (by rfl) (by rfl) (by exact (Nat.le_of_ble_eq_true rfl)) ?_
      exact x_return d_PR_put_33 rfl ⟨rfl, rfl, x_pt rfl rfl rfl rfl rfl rfl rfl rfl rfl rfl rfl rfl rfl rfl rfl rfl rfl rfl rfl rfl (show Sum.inl (1, 4096, Sum.inl (upd _ (nI ln).toNatClampNeg _)) = _ by rw [nI_clamp (by omega)]; unfold g_pp; rw [decide_eq_true hlt]; rfl) rfl rfl rfl rfl rfl rfl rfl rfl rfl rfl rfl rfl rfl rfl rfl rfl rfl rfl rfl rfl rfl rfl rfl rfl rfl rfl rfl rfl rfl rfl rfl, rfl, rfl⟩
theorem d_PR_push_0 : decode M_PR_push.2.1 0 = .ok (.aload_n 0, 1) := by decide +kernel
theorem d_PR_push_1 : decode M_PR_push.2.1 1 = .ok (.getfield 29, 3) := by decide +kernel
theorem d_PR_push_4 : decode M_PR_push.2.1 4 = .ok (.aload_n 0, 1) := by decide +kernel
theorem d_PR_push_5 : decode M_PR_push.2.1 5 = .ok (.getfield 15, 3) := by decide +kernel
theorem d_PR_push_8 : decode M_PR_push.2.1 8 = .ok (.arraylength, 1) := by decide +kernel
theorem d_PR_push_9 : decode M_PR_push.2.1 9 = .ok (.if_icmp .ge 23, 3) := by decide +kernel
theorem d_PR_push_12 : decode M_PR_push.2.1 12 = .ok (.aload_n 0, 1) := by decide +kernel
theorem d_PR_push_13 : decode M_PR_push.2.1 13 = .ok (.getfield 15, 3) := by decide +kernel
theorem d_PR_push_16 : decode M_PR_push.2.1 16 = .ok (.aload_n 0, 1) := by decide +kernel
theorem d_PR_push_17 : decode M_PR_push.2.1 17 = .ok (.getfield 29, 3) := by decide +kernel
theorem d_PR_push_20 : decode M_PR_push.2.1 20 = .ok (.iload_n 1, 1) := by decide +kernel
theorem d_PR_push_21 : decode M_PR_push.2.1 21 = .ok (.iastore, 1) := by decide +kernel
theorem d_PR_push_22 : decode M_PR_push.2.1 22 = .ok (.aload_n 0, 1) := by decide +kernel
theorem d_PR_push_23 : decode M_PR_push.2.1 23 = .ok (.dup, 1) := by decide +kernel
theorem d_PR_push_24 : decode M_PR_push.2.1 24 = .ok (.getfield 29, 3) := by decide +kernel
theorem d_PR_push_27 : decode M_PR_push.2.1 27 = .ok (.iconst 1, 1) := by decide +kernel
theorem d_PR_push_28 : decode M_PR_push.2.1 28 = .ok (.iadd, 1) := by decide +kernel
theorem d_PR_push_29 : decode M_PR_push.2.1 29 = .ok (.putfield 29, 3) := by decide +kernel
theorem d_PR_push_32 : decode M_PR_push.2.1 32 = .ok (.return_, 1) := by decide +kernel
set_option maxRecDepth 20000 in
theorem w_PR_push {E : xR} {h : xH} {ra wc : Nat} {ln ne : Int32} {Lv Wt Pp : Nat → Int32} {x : Int32} (hra : ra = 19 ∨ ra = 20) (hw : wc < 2000) : x_Mt E M_PR_push 0 0 0 [.ref 15, .int x] 52 (g_qw h ra (nI wc) ln ne Lv Wt Pp) (x_Y none 52 (g_qw h ra (nI (wc + 1)) ln ne Lv (upd Wt wc x) Pp)) := by
  rcases hra with rfl | rfl
  · refine x_Mt.of (by decide) (Nat.le_of_ble_eq_true rfl) ?_
    show x_W E M_PR_push _ _ 52 (g_qw h 19 (nI wc) ln ne Lv Wt Pp) 0 [(0, .ref 15), (1, .int x)] [] 0 0
    refine x_aload_n d_PR_push_0 rfl rfl ?_
    refine x_get d_PR_push_1 f_PR_29 (Nat.le_of_ble_eq_true rfl) (Nat.le_of_ble_eq_true rfl) (by first | rfl | assumption) (by rfl) ?_
    refine x_aload_n d_PR_push_4 rfl rfl ?_
    refine x_get d_PR_push_5 f_PR_15 (Nat.le_of_ble_eq_true rfl) (Nat.le_of_ble_eq_true rfl) (by first | rfl | assumption) (by rfl) ?_
    refine x_alen d_PR_push_8 (Nat.le_of_ble_eq_true rfl) (Nat.le_of_ble_eq_true rfl) (by first | rfl | assumption) (by rfl) ?_
    refine x_icmp_ge 32 d_PR_push_9 (by decide) (fun z => absurd z (show ¬ nI 2000 ≤ nI wc from nI_ge (by omega) (by decide))) (fun _ => ?_)
    refine x_aload_n d_PR_push_12 rfl rfl ?_
    refine x_get d_PR_push_13 f_PR_15 (Nat.le_of_ble_eq_true rfl) (Nat.le_of_ble_eq_true rfl) (by first | rfl | assumption) (by rfl) ?_
    refine x_aload_n d_PR_push_16 rfl rfl ?_
    refine x_get d_PR_push_17 f_PR_29 (Nat.le_of_ble_eq_true rfl) (Nat.le_of_ble_eq_true rfl) (by first | rfl | assumption) (by rfl) ?_
    refine x_iload_n d_PR_push_20 rfl rfl ?_
    refine x_iast d_PR_push_21 (Nat.le_of_ble_eq_true rfl) (Nat.le_of_ble_eq_true rfl) (by first | rfl | assumption) (vp_in_nI hw (by decide)) ?_
    refine x_aload_n d_PR_push_22 rfl rfl ?_
    refine x_dup d_PR_push_23 rfl ?_
    refine x_get d_PR_push_24 f_PR_29 (Nat.le_of_ble_eq_true rfl) (Nat.le_of_ble_eq_true rfl) (by first | rfl | assumption) (by rfl) ?_
    refine x_iconst 1 d_PR_push_27 (by decide) ?_
    refine x_iadd d_PR_push_28 ?_
    refine x_topi (nI (wc + 1)) (nI_succ wc).symm ?_
    refine x_put d_PR_push_29 f_PR_29 (Nat.le_of_ble_eq_true rfl) (Nat.le_of_ble_eq_true rfl) (by first | rfl | assumption) (by rfl) (by rfl) (by exact (Nat.le_of_ble_eq_true rfl)) ?_
    exact x_return d_PR_push_32 rfl ⟨rfl, rfl, x_pt rfl rfl rfl rfl rfl rfl rfl rfl rfl rfl rfl rfl rfl rfl rfl rfl rfl (show Sum.inl (0, 2000, Sum.inl (upd _ (nI wc).toNatClampNeg _)) = _ by rw [nI_clamp (by omega)]; rfl) rfl rfl rfl rfl rfl rfl rfl rfl rfl rfl rfl rfl rfl rfl rfl rfl rfl rfl rfl rfl rfl rfl rfl rfl rfl rfl rfl rfl rfl rfl rfl rfl rfl rfl, rfl, rfl⟩
  · refine x_Mt.of (by decide) (Nat.le_of_ble_eq_true rfl) ?_
    show x_W E M_PR_push _ _ 52 (g_qw h 20 (nI wc) ln ne Lv Wt Pp) 0 [(0, .ref 15), (1, .int x)] [] 0 0
    refine x_aload_n d_PR_push_0 rfl rfl ?_
    refine x_get d_PR_push_1 f_PR_29 (Nat.le_of_ble_eq_true rfl) (Nat.le_of_ble_eq_true rfl) (by first | rfl | assumption) (by rfl) ?_
    refine x_aload_n d_PR_push_4 rfl rfl ?_
    refine x_get d_PR_push_5 f_PR_15 (Nat.le_of_ble_eq_true rfl) (Nat.le_of_ble_eq_true rfl) (by first | rfl | assumption) (by rfl) ?_
    refine x_alen d_PR_push_8 (Nat.le_of_ble_eq_true rfl) (Nat.le_of_ble_eq_true rfl) (by first | rfl | assumption) (by rfl) ?_
    refine x_icmp_ge 32 d_PR_push_9 (by decide) (fun z => absurd z (show ¬ nI 2000 ≤ nI wc from nI_ge (by omega) (by decide))) (fun _ => ?_)
    refine x_aload_n d_PR_push_12 rfl rfl ?_
    refine x_get d_PR_push_13 f_PR_15 (Nat.le_of_ble_eq_true rfl) (Nat.le_of_ble_eq_true rfl) (by first | rfl | assumption) (by rfl) ?_
    refine x_aload_n d_PR_push_16 rfl rfl ?_
    refine x_get d_PR_push_17 f_PR_29 (Nat.le_of_ble_eq_true rfl) (Nat.le_of_ble_eq_true rfl) (by first | rfl | assumption) (by rfl) ?_
    refine x_iload_n d_PR_push_20 rfl rfl ?_
    refine x_iast d_PR_push_21 (Nat.le_of_ble_eq_true rfl) (Nat.le_of_ble_eq_true rfl) (by first | rfl | assumption) (vp_in_nI hw (by decide)) ?_
    refine x_aload_n d_PR_push_22 rfl rfl ?_
    refine x_dup d_PR_push_23 rfl ?_
    refine x_get d_PR_push_24 f_PR_29 (Nat.le_of_ble_eq_true rfl) (Nat.le_of_ble_eq_true rfl) (by first | rfl | assumption) (by rfl) ?_
    refine x_iconst 1 d_PR_push_27 (by decide) ?_
    refine x_iadd d_PR_push_28 ?_
    refine x_topi (nI (wc + 1)) (nI_succ wc).symm ?_
    refine x_put d_PR_push_29 f_PR_29 (Nat.le_of_ble_eq_true rfl) (Nat.le_of_ble_eq_true rfl) (by first | rfl | assumption) (by rfl) (by rfl) (by exact (Nat.le_of_ble_eq_true rfl)) ?_
    exact x_return d_PR_push_32 rfl ⟨rfl, rfl, x_pt rfl rfl rfl rfl rfl rfl rfl rfl rfl rfl rfl rfl rfl rfl rfl rfl rfl (show Sum.inl (0, 2000, Sum.inl (upd _ (nI wc).toNatClampNeg _)) = _ by rw [nI_clamp (by omega)]; rfl) rfl rfl rfl rfl rfl rfl rfl rfl rfl rfl rfl rfl rfl rfl rfl rfl rfl rfl rfl rfl rfl rfl rfl rfl rfl rfl rfl rfl rfl rfl rfl rfl rfl rfl, rfl, rfl⟩
theorem d_PR_enter_0 : decode M_PR_enter.2.1 0 = .ok (.aload_n 0, 1) := by decide +kernel
theorem d_PR_enter_1 : decode M_PR_enter.2.1 1 = .ok (.iload_n 1, 1) := by decide +kernel
theorem d_PR_enter_2 : decode M_PR_enter.2.1 2 = .ok (.iconst (-1), 1) := by decide +kernel
theorem d_PR_enter_3 : decode M_PR_enter.2.1 3 = .ok (.ixor, 1) := by decide +kernel
theorem d_PR_enter_4 : decode M_PR_enter.2.1 4 = .ok (.invokevirtual 37, 3) := by decide +kernel
theorem d_PR_enter_7 : decode M_PR_enter.2.1 7 = .ok (.aload_n 0, 1) := by decide +kernel
theorem d_PR_enter_8 : decode M_PR_enter.2.1 8 = .ok (.iload_n 1, 1) := by decide +kernel
theorem d_PR_enter_9 : decode M_PR_enter.2.1 9 = .ok (.invokevirtual 37, 3) := by decide +kernel
theorem d_PR_enter_12 : decode M_PR_enter.2.1 12 = .ok (.return_, 1) := by decide +kernel
set_option maxRecDepth 20000 in
theorem w_PR_enter {E : xR} {h : xH} {ra wc : Nat} {ln ne : Int32} {Lv Wt Pp : Nat → Int32} {x : Int32} (hra : ra = 19 ∨ ra = 20) (hw : wc + 1 < 2000) : x_Mt E M_PR_enter 1 0 0 [.ref 15, .int x] 52 (g_qw h ra (nI wc) ln ne Lv Wt Pp) (x_Y none 52 (g_qw h ra (nI (wc + 1 + 1)) ln ne Lv (upd (upd Wt wc (x ^^^ -1)) (wc + 1) x) Pp)) := by
  have hra0 := hra
  rcases hra with rfl | rfl
  · refine x_Mt.of (by decide) (Nat.le_of_ble_eq_true rfl) ?_
    show x_W E M_PR_enter _ _ 52 (g_qw h 19 (nI wc) ln ne Lv Wt Pp) 0 [(0, .ref 15), (1, .int x)] [] 0 0
    refine x_aload_n d_PR_enter_0 rfl rfl ?_
    refine x_iload_n d_PR_enter_1 rfl rfl ?_
    refine x_iconst (-1) d_PR_enter_2 (by decide) ?_
    refine x_ixor d_PR_enter_3 ?_
    refine x_callV1Y d_PR_enter_4 k_PR_37 (Nat.le_of_ble_eq_true rfl) (Nat.le_of_ble_eq_true rfl) (by first | rfl | assumption) (by rfl) (w_PR_push hra0 (by omega)) (Nat.le_of_ble_eq_true rfl) (Nat.le_of_ble_eq_true rfl) (Nat.le_of_ble_eq_true rfl) (Nat.le_of_ble_eq_true rfl) (Nat.le_of_ble_eq_true rfl) rfl ?_
    refine x_aload_n d_PR_enter_7 rfl rfl ?_
    refine x_iload_n d_PR_enter_8 rfl rfl ?_
    refine x_callV1Y d_PR_enter_9 k_PR_37 (Nat.le_of_ble_eq_true rfl) (Nat.le_of_ble_eq_true rfl) (by first | rfl | assumption) (by rfl) (w_PR_push hra0 (by omega)) (Nat.le_of_ble_eq_true rfl) (Nat.le_of_ble_eq_true rfl) (Nat.le_of_ble_eq_true rfl) (Nat.le_of_ble_eq_true rfl) (Nat.le_of_ble_eq_true rfl) rfl ?_
    exact x_return d_PR_enter_12 rfl ⟨rfl, rfl, fun _ _ => rfl, rfl, rfl⟩
  · refine x_Mt.of (by decide) (Nat.le_of_ble_eq_true rfl) ?_
    show x_W E M_PR_enter _ _ 52 (g_qw h 20 (nI wc) ln ne Lv Wt Pp) 0 [(0, .ref 15), (1, .int x)] [] 0 0
    refine x_aload_n d_PR_enter_0 rfl rfl ?_
    refine x_iload_n d_PR_enter_1 rfl rfl ?_
    refine x_iconst (-1) d_PR_enter_2 (by decide) ?_
    refine x_ixor d_PR_enter_3 ?_
    refine x_callV1Y d_PR_enter_4 k_PR_37 (Nat.le_of_ble_eq_true rfl) (Nat.le_of_ble_eq_true rfl) (by first | rfl | assumption) (by rfl) (w_PR_push hra0 (by omega)) (Nat.le_of_ble_eq_true rfl) (Nat.le_of_ble_eq_true rfl) (Nat.le_of_ble_eq_true rfl) (Nat.le_of_ble_eq_true rfl) (Nat.le_of_ble_eq_true rfl) rfl ?_
    refine x_aload_n d_PR_enter_7 rfl rfl ?_
    refine x_iload_n d_PR_enter_8 rfl rfl ?_
    refine x_callV1Y d_PR_enter_9 k_PR_37 (Nat.le_of_ble_eq_true rfl) (Nat.le_of_ble_eq_true rfl) (by first | rfl | assumption) (by rfl) (w_PR_push hra0 (by omega)) (Nat.le_of_ble_eq_true rfl) (Nat.le_of_ble_eq_true rfl) (Nat.le_of_ble_eq_true rfl) (Nat.le_of_ble_eq_true rfl) (Nat.le_of_ble_eq_true rfl) rfl ?_
    exact x_return d_PR_enter_12 rfl ⟨rfl, rfl, fun _ _ => rfl, rfl, rfl⟩
