/-- can a term begin here, as the reference sees it: at a brace too -/
def g_mb (u : Nat → Nat) (N p : Nat) : Bool := decide (g_ky (g_at u N) N p = 8) || g_bg (g_at u N) N p
theorem g_mb0 {u : Nat → Nat} {N p : Nat} (h : g_ky (g_at u N) N p = 5 ∨ g_ky (g_at u N) N p = 7 ∨ g_ky (g_at u N) N p = 9 ∨ g_ky (g_at u N) N p = 10 ∨ g_ky (g_at u N) N p = 11 ∨ g_ky (g_at u N) N p = 0 ∨ g_ky (g_at u N) N p = 13) : g_mb u N p = false := by
  unfold g_mb g_bg g_can
  rcases h with h | h | h | h | h | h | h <;> rw [h] <;> rfl
theorem g_mb1 {u : Nat → Nat} {N p : Nat} (hp : p ≤ N) (h : ¬ (g_ky (g_at u N) N p = 5 ∨ g_ky (g_at u N) N p = 7 ∨ g_ky (g_at u N) N p = 9 ∨ g_ky (g_at u N) N p = 10 ∨ g_ky (g_at u N) N p = 11 ∨ g_ky (g_at u N) N p = 0 ∨ g_ky (g_at u N) N p = 13)) (ho : g_op (g_at u N) N p = 23) : g_mb u N p = true := by
  have hkL := g_kyL (u := u) hp
  unfold g_op at ho
  unfold g_mb g_bg g_can
  rw [ho]
  rcases (by omega : g_ky (g_at u N) N p = 1 ∨ g_ky (g_at u N) N p = 2 ∨ g_ky (g_at u N) N p = 3 ∨ g_ky (g_at u N) N p = 4 ∨ g_ky (g_at u N) N p = 6 ∨ g_ky (g_at u N) N p = 8 ∨ g_ky (g_at u N) N p = 12) with h | h | h | h | h | h | h <;> rw [h]
  · rfl
  · rfl
  · show (false || (false || (_ || true))) = true
    simp
  · rfl
  · rfl
  · rfl
  · rfl
theorem g_mb2 {u : Nat → Nat} {N p : Nat} (hp : p ≤ N) (h10 : ¬ g_ky (g_at u N) N p = 10) (ho : ¬ g_op (g_at u N) N p = 23) : g_mb u N p = !decide (g_px (g_at u N) N p = 23) := by
  have hkL := g_kyL (u := u) hp
  have h3 : g_ky (g_at u N) N p = 3 := by
    by_cases e : g_ky (g_at u N) N p = 3
    · exact e
    · exfalso
      apply ho
      unfold g_op g_inf g_nm
      rw [if_neg (fun z => h10 ((g_sgk _ hkL).1.mp z)), if_neg (fun z => e ((g_sgk _ hkL).2.1.mp z))]
  unfold g_op at ho
  unfold g_mb g_bg g_can g_px
  rw [decide_eq_false ho, h3]
  show (false || (false || (_ || false))) = _
  simp
theorem g_rkN {o : Nat} (ho : o < 24) : g_rkV o = -1 ↔ o = 23 := by
  unfold g_rkV
  by_cases h : o = 23
  · rw [if_pos h]; exact ⟨fun _ => h, fun _ => rfl⟩
  · rw [if_neg h]
    exact ⟨fun z => absurd z (g_nIm (by have := (g_rkI o ho).2; omega)), fun z => absurd z h⟩
theorem d_RD_begins_0 : decode M_RD_begins.2.1 0 = .ok (.aload_n 0, 1) := by decide +kernel
theorem d_RD_begins_1 : decode M_RD_begins.2.1 1 = .ok (.getfield 123, 3) := by decide +kernel
theorem d_RD_begins_4 : decode M_RD_begins.2.1 4 = .ok (.iconst 5, 1) := by decide +kernel
theorem d_RD_begins_5 : decode M_RD_begins.2.1 5 = .ok (.if_icmp .eq 55, 3) := by decide +kernel
theorem d_RD_begins_8 : decode M_RD_begins.2.1 8 = .ok (.aload_n 0, 1) := by decide +kernel
theorem d_RD_begins_9 : decode M_RD_begins.2.1 9 = .ok (.getfield 123, 3) := by decide +kernel
theorem d_RD_begins_12 : decode M_RD_begins.2.1 12 = .ok (.bipush 7, 2) := by decide +kernel
theorem d_RD_begins_14 : decode M_RD_begins.2.1 14 = .ok (.if_icmp .eq 46, 3) := by decide +kernel
theorem d_RD_begins_17 : decode M_RD_begins.2.1 17 = .ok (.aload_n 0, 1) := by decide +kernel
theorem d_RD_begins_18 : decode M_RD_begins.2.1 18 = .ok (.getfield 123, 3) := by decide +kernel
theorem d_RD_begins_21 : decode M_RD_begins.2.1 21 = .ok (.bipush 9, 2) := by decide +kernel
theorem d_RD_begins_23 : decode M_RD_begins.2.1 23 = .ok (.if_icmp .eq 37, 3) := by decide +kernel
theorem d_RD_begins_26 : decode M_RD_begins.2.1 26 = .ok (.aload_n 0, 1) := by decide +kernel
theorem d_RD_begins_27 : decode M_RD_begins.2.1 27 = .ok (.getfield 123, 3) := by decide +kernel
theorem d_RD_begins_30 : decode M_RD_begins.2.1 30 = .ok (.bipush 10, 2) := by decide +kernel
theorem d_RD_begins_32 : decode M_RD_begins.2.1 32 = .ok (.if_icmp .eq 28, 3) := by decide +kernel
theorem d_RD_begins_35 : decode M_RD_begins.2.1 35 = .ok (.aload_n 0, 1) := by decide +kernel
theorem d_RD_begins_36 : decode M_RD_begins.2.1 36 = .ok (.getfield 123, 3) := by decide +kernel
theorem d_RD_begins_39 : decode M_RD_begins.2.1 39 = .ok (.bipush 11, 2) := by decide +kernel
theorem d_RD_begins_41 : decode M_RD_begins.2.1 41 = .ok (.if_icmp .eq 19, 3) := by decide +kernel
theorem d_RD_begins_44 : decode M_RD_begins.2.1 44 = .ok (.aload_n 0, 1) := by decide +kernel
theorem d_RD_begins_45 : decode M_RD_begins.2.1 45 = .ok (.getfield 123, 3) := by decide +kernel
theorem d_RD_begins_48 : decode M_RD_begins.2.1 48 = .ok (.ifCond .eq 12, 3) := by decide +kernel
theorem d_RD_begins_51 : decode M_RD_begins.2.1 51 = .ok (.aload_n 0, 1) := by decide +kernel
theorem d_RD_begins_52 : decode M_RD_begins.2.1 52 = .ok (.getfield 123, 3) := by decide +kernel
theorem d_RD_begins_55 : decode M_RD_begins.2.1 55 = .ok (.bipush 13, 2) := by decide +kernel
theorem d_RD_begins_57 : decode M_RD_begins.2.1 57 = .ok (.if_icmp .ne 5, 3) := by decide +kernel
theorem d_RD_begins_60 : decode M_RD_begins.2.1 60 = .ok (.iconst 0, 1) := by decide +kernel
theorem d_RD_begins_61 : decode M_RD_begins.2.1 61 = .ok (.ireturn, 1) := by decide +kernel
theorem d_RD_begins_62 : decode M_RD_begins.2.1 62 = .ok (.aload_n 0, 1) := by decide +kernel
theorem d_RD_begins_63 : decode M_RD_begins.2.1 63 = .ok (.invokevirtual 198, 3) := by decide +kernel
theorem d_RD_begins_66 : decode M_RD_begins.2.1 66 = .ok (.iconst (-1), 1) := by decide +kernel
theorem d_RD_begins_67 : decode M_RD_begins.2.1 67 = .ok (.if_icmp .eq 11, 3) := by decide +kernel
theorem d_RD_begins_70 : decode M_RD_begins.2.1 70 = .ok (.aload_n 0, 1) := by decide +kernel
theorem d_RD_begins_71 : decode M_RD_begins.2.1 71 = .ok (.invokevirtual 201, 3) := by decide +kernel
theorem d_RD_begins_74 : decode M_RD_begins.2.1 74 = .ok (.iconst (-1), 1) := by decide +kernel
theorem d_RD_begins_75 : decode M_RD_begins.2.1 75 = .ok (.if_icmp .eq 7, 3) := by decide +kernel
theorem d_RD_begins_78 : decode M_RD_begins.2.1 78 = .ok (.iconst 1, 1) := by decide +kernel
theorem d_RD_begins_79 : decode M_RD_begins.2.1 79 = .ok (.goto 4, 3) := by decide +kernel
theorem d_RD_begins_82 : decode M_RD_begins.2.1 82 = .ok (.iconst 0, 1) := by decide +kernel
theorem d_RD_begins_83 : decode M_RD_begins.2.1 83 = .ok (.ireturn, 1) := by decide +kernel
set_option maxRecDepth 20000 in
theorem w_RD_begins {E : xR} {h : xH} {u : Nat → Nat} {N : Nat} {bh oo lt tp pl vd kn rk : Int32} {nm : Int64} {Wd : Nat → Int32} {p : Nat} (hTO : g_TO u N p bh lt nm Wd) (hB : g_TB2 h) (hu : ∀ i, u i < 256) (hp : p ≤ N) (hN : N ≤ 4096) : x_Mt E M_RD_begins 6 0 0 [.ref 36] 52 (g_rw h N (nI p) bh (nI (g_ky (g_at u N) N p)) oo nm lt tp pl vd kn rk Wd) (x_Y (some (.int (g_b2 (g_mb u N p)))) 52 (g_rw h N (nI p) bh (nI (g_ky (g_at u N) N p)) oo nm lt tp pl vd kn rk Wd)) := by
  have hkL := g_kyL (u := u) hp
  have hop := g_rkN (o := g_op (g_at u N) N p) g_infL
  have hpx := g_rkN (o := g_px (g_at u N) N p) g_nmL
  have hE : ∀ b, b < 100 → (nI (g_ky (g_at u N) N p) = nI b ↔ (g_ky (g_at u N) N p) = b) := fun b hb => g_nIne (by omega) (by omega)
  refine x_Mt.of (by decide) (Nat.le_of_ble_eq_true rfl) ?_
  show x_W E M_RD_begins _ _ 52 (g_rw h N (nI p) bh (nI (g_ky (g_at u N) N p)) oo nm lt tp pl vd kn rk Wd) 0 [(0, .ref 36)] [] 0 0
  refine x_aload_n d_RD_begins_0 rfl rfl ?_
  refine x_get d_RD_begins_1 f_RD_123 (Nat.le_of_ble_eq_true rfl) (Nat.le_of_ble_eq_true rfl) (by first | rfl | assumption) (by rfl) ?_
  refine x_iconst 5 d_RD_begins_4 (by decide) ?_
  refine x_icmp_eq 60 d_RD_begins_5 (by decide) (fun c_5 => ?_) (fun c_5 => ?_)
  · refine x_iconst 0 d_RD_begins_60 (by decide) ?_
    exact x_ireturn d_RD_begins_61 rfl rfl ⟨by rw [g_mb0 (Or.inl ((hE 5 (by decide)).mp c_5))]; rfl, rfl, fun _ _ => rfl, rfl, rfl⟩
  · refine x_aload_n d_RD_begins_8 rfl rfl ?_
    refine x_get d_RD_begins_9 f_RD_123 (Nat.le_of_ble_eq_true rfl) (Nat.le_of_ble_eq_true rfl) (by first | rfl | assumption) (by rfl) ?_
    refine x_bipush 7 d_RD_begins_12 (by decide) ?_
    refine x_icmp_eq 60 d_RD_begins_14 (by decide) (fun c_14 => ?_) (fun c_14 => ?_)
    · refine x_iconst 0 d_RD_begins_60 (by decide) ?_
      exact x_ireturn d_RD_begins_61 rfl rfl ⟨by rw [g_mb0 (Or.inr (Or.inl ((hE 7 (by decide)).mp c_14)))]; rfl, rfl, fun _ _ => rfl, rfl, rfl⟩
    · refine x_aload_n d_RD_begins_17 rfl rfl ?_
      refine x_get d_RD_begins_18 f_RD_123 (Nat.le_of_ble_eq_true rfl) (Nat.le_of_ble_eq_true rfl) (by first | rfl | assumption) (by rfl) ?_
      refine x_bipush 9 d_RD_begins_21 (by decide) ?_
      refine x_icmp_eq 60 d_RD_begins_23 (by decide) (fun c_23 => ?_) (fun c_23 => ?_)
      · refine x_iconst 0 d_RD_begins_60 (by decide) ?_
        exact x_ireturn d_RD_begins_61 rfl rfl ⟨by rw [g_mb0 (Or.inr (Or.inr (Or.inl ((hE 9 (by decide)).mp c_23))))]; rfl, rfl, fun _ _ => rfl, rfl, rfl⟩
      · refine x_aload_n d_RD_begins_26 rfl rfl ?_
        refine x_get d_RD_begins_27 f_RD_123 (Nat.le_of_ble_eq_true rfl) (Nat.le_of_ble_eq_true rfl) (by first | rfl | assumption) (by rfl) ?_
        refine x_bipush 10 d_RD_begins_30 (by decide) ?_
        refine x_icmp_eq 60 d_RD_begins_32 (by decide) (fun c_32 => ?_) (fun c_32 => ?_)
        · refine x_iconst 0 d_RD_begins_60 (by decide) ?_
          exact x_ireturn d_RD_begins_61 rfl rfl ⟨by rw [g_mb0 (Or.inr (Or.inr (Or.inr (Or.inl ((hE 10 (by decide)).mp c_32)))))]; rfl, rfl, fun _ _ => rfl, rfl, rfl⟩
        · refine x_aload_n d_RD_begins_35 rfl rfl ?_
          refine x_get d_RD_begins_36 f_RD_123 (Nat.le_of_ble_eq_true rfl) (Nat.le_of_ble_eq_true rfl) (by first | rfl | assumption) (by rfl) ?_
          refine x_bipush 11 d_RD_begins_39 (by decide) ?_
          refine x_icmp_eq 60 d_RD_begins_41 (by decide) (fun c_41 => ?_) (fun c_41 => ?_)
          · refine x_iconst 0 d_RD_begins_60 (by decide) ?_
            exact x_ireturn d_RD_begins_61 rfl rfl ⟨by rw [g_mb0 (Or.inr (Or.inr (Or.inr (Or.inr (Or.inl ((hE 11 (by decide)).mp c_41))))))]; rfl, rfl, fun _ _ => rfl, rfl, rfl⟩
          · refine x_aload_n d_RD_begins_44 rfl rfl ?_
            refine x_get d_RD_begins_45 f_RD_123 (Nat.le_of_ble_eq_true rfl) (Nat.le_of_ble_eq_true rfl) (by first | rfl | assumption) (by rfl) ?_
            refine x_if_eq 60 d_RD_begins_48 (by decide) (fun c_48 => ?_) (fun c_48 => ?_)
            · refine x_iconst 0 d_RD_begins_60 (by decide) ?_
              exact x_ireturn d_RD_begins_61 rfl rfl ⟨by rw [g_mb0 (Or.inr (Or.inr (Or.inr (Or.inr (Or.inr (Or.inl ((hE 0 (by decide)).mp c_48)))))))]; rfl, rfl, fun _ _ => rfl, rfl, rfl⟩
            · refine x_aload_n d_RD_begins_51 rfl rfl ?_
              refine x_get d_RD_begins_52 f_RD_123 (Nat.le_of_ble_eq_true rfl) (Nat.le_of_ble_eq_true rfl) (by first | rfl | assumption) (by rfl) ?_
              refine x_bipush 13 d_RD_begins_55 (by decide) ?_
              refine x_icmp_ne 62 d_RD_begins_57 (by decide) (fun c_57 => ?_) (fun c_57 => ?_)
              · have hx : ¬ ((g_ky (g_at u N) N p) = 5 ∨ (g_ky (g_at u N) N p) = 7 ∨ (g_ky (g_at u N) N p) = 9 ∨ (g_ky (g_at u N) N p) = 10 ∨ (g_ky (g_at u N) N p) = 11 ∨ (g_ky (g_at u N) N p) = 0 ∨ (g_ky (g_at u N) N p) = 13) := by
                  intro z
                  rcases z with z | z | z | z | z | z | z
                  · exact c_5 ((hE 5 (by decide)).mpr z)
                  · exact c_14 ((hE 7 (by decide)).mpr z)
                  · exact c_23 ((hE 9 (by decide)).mpr z)
                  · exact c_32 ((hE 10 (by decide)).mpr z)
                  · exact c_41 ((hE 11 (by decide)).mpr z)
                  · exact c_48 ((hE 0 (by decide)).mpr z)
                  · exact c_57 ((hE 13 (by decide)).mpr z)
                refine x_aload_n d_RD_begins_62 rfl rfl ?_
                refine x_callV0Y d_RD_begins_63 k_RD_198 (Nat.le_of_ble_eq_true rfl) (Nat.le_of_ble_eq_true rfl) (by first | rfl | assumption) (by rfl) (w_RD_rank hTO hB hu hp hN) (Nat.le_of_ble_eq_true rfl) (Nat.le_of_ble_eq_true rfl) (Nat.le_of_ble_eq_true rfl) (Nat.le_of_ble_eq_true rfl) (Nat.le_of_ble_eq_true rfl) rfl ?_
                refine x_iconst (-1) d_RD_begins_66 (by decide) ?_
                refine x_icmp_eq 78 d_RD_begins_67 (by decide) (fun c_67 => ?_) (fun c_67 => ?_)
                · refine x_iconst 1 d_RD_begins_78 (by decide) ?_
                  refine x_goto 83 d_RD_begins_79 (by decide) ?_
                  exact x_ireturn d_RD_begins_83 rfl rfl ⟨by rw [g_mb1 hp hx (hop.mp c_67)]; rfl, rfl, fun _ _ => rfl, rfl, rfl⟩
                · refine x_aload_n d_RD_begins_70 rfl rfl ?_
                  refine x_callV0Y d_RD_begins_71 k_RD_201 (Nat.le_of_ble_eq_true rfl) (Nat.le_of_ble_eq_true rfl) (by first | rfl | assumption) (by rfl) (w_RD_prefix hTO hu hp hN) (Nat.le_of_ble_eq_true rfl) (Nat.le_of_ble_eq_true rfl) (Nat.le_of_ble_eq_true rfl) (Nat.le_of_ble_eq_true rfl) (Nat.le_of_ble_eq_true rfl) rfl ?_
                  refine x_iconst (-1) d_RD_begins_74 (by decide) ?_
                  refine x_icmp_eq 82 d_RD_begins_75 (by decide) (fun c_75 => ?_) (fun c_75 => ?_)
                  · refine x_iconst 0 d_RD_begins_82 (by decide) ?_
                    exact x_ireturn d_RD_begins_83 rfl rfl ⟨by rw [g_mb2 hp (fun z => hx (Or.inr (Or.inr (Or.inr (Or.inl z))))) (fun z => c_67 (hop.mpr z)), decide_eq_true (hpx.mp c_75)]; rfl, rfl, fun _ _ => rfl, rfl, rfl⟩
                  · refine x_iconst 1 d_RD_begins_78 (by decide) ?_
                    refine x_goto 83 d_RD_begins_79 (by decide) ?_
                    exact x_ireturn d_RD_begins_83 rfl rfl ⟨by rw [g_mb2 hp (fun z => hx (Or.inr (Or.inr (Or.inr (Or.inl z))))) (fun z => c_67 (hop.mpr z)), decide_eq_false (fun z => c_75 (hpx.mpr z))]; rfl, rfl, fun _ _ => rfl, rfl, rfl⟩
              · refine x_iconst 0 d_RD_begins_60 (by decide) ?_
                exact x_ireturn d_RD_begins_61 rfl rfl ⟨by rw [g_mb0 (Or.inr (Or.inr (Or.inr (Or.inr (Or.inr (Or.inr ((hE 13 (by decide)).mp c_57)))))))]; rfl, rfl, fun _ _ => rfl, rfl, rfl⟩
/-- the whole world of the reference while it reads -/
def g_mw (h : xH) (N : Nat) (T : List (List Int32)) (Na B : Nat → Nat → Int32) (Nm : Nat → Int64) (z q : Nat) (St Vr Kp : Nat → Int32) (aa bh tk oo : Int32) (nm : Int64) (lt tp pl vd kn rk : Int32) (Wd : Nat → Int32) : xH := g_rw (g_nw (g_ew (x_up (x_up (x_up h 41 (.inl (0, 4200, .inl St))) 42 (.inl (0, 4200, .inl Vr))) 43 (.inl (1, 4096, .inl Kp))) B Nm (nI z) (nI q)) (nI T.length) (nI (g_tot T)) (Na 0) (Na 1) (Na 2) (Na 3)) N aa bh tk oo nm lt tp pl vd kn rk Wd
def g_n4 (a b c d : Nat → Int32) : Nat → Nat → Int32 := fun i => bif Nat.beq i 0 then a else bif Nat.beq i 1 then b else bif Nat.beq i 2 then c else d
/-- the names, with their rows -/
def g_NB (T : List (List Int32)) (Na : Nat → Nat → Int32) : Prop := g_NA g_H T (Na 0) (Na 1) (Na 2) (Na 3) ∧ g_nq T
theorem g_nb9 : ∀ x, x < 256 → vp_nar .byte (g_sb x) = g_sb x := by decide +kernel
theorem d_RD_name_0 : decode M_RD_name.2.1 0 = .ok (.aload_n 0, 1) := by decide +kernel
theorem d_RD_name_1 : decode M_RD_name.2.1 1 = .ok (.getfield 85, 3) := by decide +kernel
theorem d_RD_name_4 : decode M_RD_name.2.1 4 = .ok (.aload_n 0, 1) := by decide +kernel
theorem d_RD_name_5 : decode M_RD_name.2.1 5 = .ok (.getfield 68, 3) := by decide +kernel
theorem d_RD_name_8 : decode M_RD_name.2.1 8 = .ok (.aload_n 0, 1) := by decide +kernel
theorem d_RD_name_9 : decode M_RD_name.2.1 9 = .ok (.getfield 139, 3) := by decide +kernel
theorem d_RD_name_12 : decode M_RD_name.2.1 12 = .ok (.invokevirtual 219, 3) := by decide +kernel
theorem d_RD_name_15 : decode M_RD_name.2.1 15 = .ok (.ireturn, 1) := by decide +kernel
set_option maxRecDepth 20000 in
theorem w_RD_name {E : xR} {h : xH} {N z q : Nat} {T : List (List Int32)} {Na B : Nat → Nat → Int32} {Nm : Nat → Int64} {St Vr Kp Wd : Nat → Int32} {aa bh tk oo tp pl vd kn rk : Int32} {nm : Int64} {x : List Int32} (hA : g_NB T Na) (hcap : g_tot T + x.length ≤ 5000) (hT9 : T.length < 8990) (hx4 : x.length ≤ 4096) (hxb : ∀ i (h : i < x.length), vp_nar .byte x[i] = x[i]) (hx : g_wx Wd x) : x_Mt E M_RD_name 2 0 0 [.ref 36] 52 (g_mw h N T Na B Nm z q St Vr Kp aa bh tk oo nm (nI x.length) tp pl vd kn rk Wd) (x_YE (fun v h1 => v = some (.int (nI (g_nk T x))) ∧ ∃ Na', g_NB (g_nT T x) Na' ∧ h1 = (g_mw h N (g_nT T x) Na' B Nm z q St Vr Kp aa bh tk oo nm (nI x.length) tp pl vd kn rk Wd))) := by
  refine x_Mt.of (by decide) (Nat.le_of_ble_eq_true rfl) ?_
  show x_W E M_RD_name _ _ 52 (g_mw h N T Na B Nm z q St Vr Kp aa bh tk oo nm (nI x.length) tp pl vd kn rk Wd) 0 [(0, .ref 36)] [] 0 0
  refine x_aload_n d_RD_name_0 rfl rfl ?_
  refine x_get d_RD_name_1 f_RD_85 (Nat.le_of_ble_eq_true rfl) (Nat.le_of_ble_eq_true rfl) (by first | rfl | assumption) (by rfl) ?_
  refine x_aload_n d_RD_name_4 rfl rfl ?_
  refine x_get d_RD_name_5 f_RD_68 (Nat.le_of_ble_eq_true rfl) (Nat.le_of_ble_eq_true rfl) (by first | rfl | assumption) (by rfl) ?_
  refine x_aload_n d_RD_name_8 rfl rfl ?_
  refine x_get d_RD_name_9 f_RD_139 (Nat.le_of_ble_eq_true rfl) (Nat.le_of_ble_eq_true rfl) (by first | rfl | assumption) (by rfl) ?_
  refine x_same (h' := (g_nw (g_mw h N T Na B Nm z q St Vr Kp aa bh tk oo nm (nI x.length) tp pl vd kn rk Wd) (nI T.length) (nI (g_tot T)) (Na 0) (Na 1) (Na 2) (Na 3))) (x_pt rfl rfl rfl rfl rfl rfl rfl rfl rfl rfl rfl rfl rfl rfl rfl rfl rfl rfl rfl rfl rfl rfl rfl rfl rfl rfl rfl rfl rfl rfl rfl rfl rfl rfl rfl rfl rfl rfl rfl rfl rfl rfl rfl rfl rfl rfl rfl rfl rfl rfl rfl rfl) ?_
  refine x_callV2E d_RD_name_12 k_RD_219 (Nat.le_of_ble_eq_true rfl) (Nat.le_of_ble_eq_true rfl) (by first | rfl | assumption) (by rfl) (w_NA_of (h := (g_mw h N T Na B Nm z q St Vr Kp aa bh tk oo nm (nI x.length) tp pl vd kn rk Wd)) hA.1 (by omega) (fun _ => hcap) hT9 rfl hx hx4 hxb) (Nat.le_of_ble_eq_true rfl) (Nat.le_of_ble_eq_true rfl) (Nat.le_of_ble_eq_true rfl) (Nat.le_of_ble_eq_true rfl) (Nat.le_of_ble_eq_true rfl) rfl (fun v1 hh1 hp1 => ?_)
  obtain ⟨rfl, TX1, FR1, NX1, FS1, hA1, rfl⟩ := hp1
  refine x_same (h' := (g_mw h N (g_nT T x) (g_n4 TX1 FR1 NX1 FS1) B Nm z q St Vr Kp aa bh tk oo nm (nI x.length) tp pl vd kn rk Wd)) (x_pt rfl rfl rfl rfl rfl rfl rfl rfl rfl rfl rfl rfl rfl rfl rfl rfl rfl rfl rfl rfl rfl rfl rfl rfl rfl rfl rfl rfl rfl rfl rfl rfl rfl rfl rfl rfl rfl rfl rfl rfl rfl rfl rfl rfl rfl rfl rfl rfl rfl rfl rfl rfl) ?_
  exact x_ireturn d_RD_name_15 rfl rfl (x_YEi _ ⟨rfl, (g_n4 TX1 FR1 NX1 FS1), ⟨hA1, g_nTq hA.2⟩, rfl⟩ (fun _ _ => rfl))
theorem d_RD_one_0 : decode M_RD_one.2.1 0 = .ok (.aload_n 0, 1) := by decide +kernel
theorem d_RD_one_1 : decode M_RD_one.2.1 1 = .ok (.iconst 0, 1) := by decide +kernel
theorem d_RD_one_2 : decode M_RD_one.2.1 2 = .ok (.putfield 139, 3) := by decide +kernel
theorem d_RD_one_5 : decode M_RD_one.2.1 5 = .ok (.aload_n 0, 1) := by decide +kernel
theorem d_RD_one_6 : decode M_RD_one.2.1 6 = .ok (.iload_n 1, 1) := by decide +kernel
theorem d_RD_one_7 : decode M_RD_one.2.1 7 = .ok (.invokevirtual 154, 3) := by decide +kernel
theorem d_RD_one_10 : decode M_RD_one.2.1 10 = .ok (.aload_n 0, 1) := by decide +kernel
theorem d_RD_one_11 : decode M_RD_one.2.1 11 = .ok (.invokevirtual 212, 3) := by decide +kernel
theorem d_RD_one_14 : decode M_RD_one.2.1 14 = .ok (.ireturn, 1) := by decide +kernel
set_option maxRecDepth 20000 in
theorem w_RD_one {E : xR} {h : xH} {N z q : Nat} {T : List (List Int32)} {Na B : Nat → Nat → Int32} {Nm : Nat → Int64} {St Vr Kp Wd : Nat → Int32} {aa bh tk oo lt tp pl vd kn rk : Int32} {nm : Int64} {c : Int32} (hA : g_NB T Na) (hcap : g_tot T + 1 ≤ 5000) (hT9 : T.length < 8990) (hc1 : vp_nar .byte c.toInt8.toInt32 = c) (hc2 : vp_nar .byte c = c) : x_Mt E M_RD_one 3 0 0 [.ref 36, .int c] 52 (g_mw h N T Na B Nm z q St Vr Kp aa bh tk oo nm lt tp pl vd kn rk Wd) (x_YE (fun v h1 => v = some (.int (nI (g_nk T [c]))) ∧ ∃ Na', g_NB (g_nT T [c]) Na' ∧ h1 = (g_mw h N (g_nT T [c]) Na' B Nm z q St Vr Kp aa bh tk oo nm (nI 1) tp pl vd kn rk (upd Wd 0 c)))) := by
  refine x_Mt.of (by decide) (Nat.le_of_ble_eq_true rfl) ?_
  show x_W E M_RD_one _ _ 52 (g_mw h N T Na B Nm z q St Vr Kp aa bh tk oo nm lt tp pl vd kn rk Wd) 0 [(0, .ref 36), (1, .int c)] [] 0 0
  refine x_aload_n d_RD_one_0 rfl rfl ?_
  refine x_iconst 0 d_RD_one_1 (by decide) ?_
  refine x_put d_RD_one_2 f_RD_139 (Nat.le_of_ble_eq_true rfl) (Nat.le_of_ble_eq_true rfl) (by first | rfl | assumption) (by rfl) (by rfl) (by exact (Nat.le_of_ble_eq_true rfl)) ?_
  refine x_same (h' := (g_mw h N T Na B Nm z q St Vr Kp aa bh tk oo nm (nI 0) tp pl vd kn rk Wd)) (x_pt rfl rfl rfl rfl rfl rfl rfl rfl rfl rfl rfl rfl rfl rfl rfl rfl rfl rfl rfl rfl rfl rfl rfl rfl rfl rfl rfl rfl rfl rfl rfl rfl rfl rfl rfl rfl rfl rfl rfl rfl rfl rfl rfl rfl rfl rfl rfl rfl rfl rfl rfl rfl) ?_
  refine x_aload_n d_RD_one_5 rfl rfl ?_
  refine x_iload_n d_RD_one_6 rfl rfl ?_
  refine x_callV1Y d_RD_one_7 k_RD_154 (Nat.le_of_ble_eq_true rfl) (Nat.le_of_ble_eq_true rfl) (by first | rfl | assumption) (by rfl) (w_RD_letter (L := 0) (by decide) hc1) (Nat.le_of_ble_eq_true rfl) (Nat.le_of_ble_eq_true rfl) (Nat.le_of_ble_eq_true rfl) (Nat.le_of_ble_eq_true rfl) (Nat.le_of_ble_eq_true rfl) rfl ?_
  refine x_same (h' := (g_mw h N T Na B Nm z q St Vr Kp aa bh tk oo nm (nI 1) tp pl vd kn rk (upd Wd 0 c))) (x_pt rfl rfl rfl rfl rfl rfl rfl rfl rfl rfl rfl rfl rfl rfl rfl rfl rfl rfl rfl rfl rfl rfl rfl rfl rfl rfl rfl rfl rfl rfl rfl rfl rfl rfl rfl rfl rfl rfl rfl rfl rfl rfl rfl rfl rfl rfl rfl rfl rfl rfl rfl rfl) ?_
  refine x_aload_n d_RD_one_10 rfl rfl ?_
  refine x_callV0E d_RD_one_11 k_RD_212 (Nat.le_of_ble_eq_true rfl) (Nat.le_of_ble_eq_true rfl) (by first | rfl | assumption) (by rfl) (w_RD_name (x := [c]) hA hcap hT9 (show 1 ≤ 4096 by decide) (fun i hi => by obtain rfl : i = 0 := Nat.lt_one_iff.mp hi; exact hc2) (fun k hk => by obtain rfl : k = 0 := Nat.lt_one_iff.mp hk; exact g_updY)) (Nat.le_of_ble_eq_true rfl) (Nat.le_of_ble_eq_true rfl) (Nat.le_of_ble_eq_true rfl) (Nat.le_of_ble_eq_true rfl) (Nat.le_of_ble_eq_true rfl) rfl (fun v1 hh1 hp1 => ?_)
  obtain ⟨rfl, Na1, hA1, rfl⟩ := hp1
  exact x_ireturn d_RD_one_14 rfl rfl (x_YEi _ ⟨rfl, Na1, hA1, rfl⟩ (fun _ _ => rfl))
theorem d_RD_comma_0 : decode M_RD_comma.2.1 0 = .ok (.aload_n 0, 1) := by decide +kernel
theorem d_RD_comma_1 : decode M_RD_comma.2.1 1 = .ok (.bipush 44, 2) := by decide +kernel
theorem d_RD_comma_3 : decode M_RD_comma.2.1 3 = .ok (.invokevirtual 225, 3) := by decide +kernel
theorem d_RD_comma_6 : decode M_RD_comma.2.1 6 = .ok (.ireturn, 1) := by decide +kernel
set_option maxRecDepth 20000 in
theorem w_RD_comma {E : xR} {h : xH} {N z q : Nat} {T : List (List Int32)} {Na B : Nat → Nat → Int32} {Nm : Nat → Int64} {St Vr Kp Wd : Nat → Int32} {aa bh tk oo lt tp pl vd kn rk : Int32} {nm : Int64} (hA : g_NB T Na) (hcap : g_tot T + 1 ≤ 5000) (hT9 : T.length < 8990) : x_Mt E M_RD_comma 4 0 0 [.ref 36] 52 (g_mw h N T Na B Nm z q St Vr Kp aa bh tk oo nm lt tp pl vd kn rk Wd) (x_YE (fun v h1 => v = some (.int (nI (g_nk T [44]))) ∧ ∃ Na', g_NB (g_nT T [44]) Na' ∧ h1 = (g_mw h N (g_nT T [44]) Na' B Nm z q St Vr Kp aa bh tk oo nm (nI 1) tp pl vd kn rk (upd Wd 0 44)))) := by
  refine x_Mt.of (by decide) (Nat.le_of_ble_eq_true rfl) ?_
  show x_W E M_RD_comma _ _ 52 (g_mw h N T Na B Nm z q St Vr Kp aa bh tk oo nm lt tp pl vd kn rk Wd) 0 [(0, .ref 36)] [] 0 0
  refine x_aload_n d_RD_comma_0 rfl rfl ?_
  refine x_bipush 44 d_RD_comma_1 (by decide) ?_
  refine x_callV1E d_RD_comma_3 k_RD_225 (Nat.le_of_ble_eq_true rfl) (Nat.le_of_ble_eq_true rfl) (by first | rfl | assumption) (by rfl) (w_RD_one hA hcap hT9 (by decide) (by decide)) (Nat.le_of_ble_eq_true rfl) (Nat.le_of_ble_eq_true rfl) (Nat.le_of_ble_eq_true rfl) (Nat.le_of_ble_eq_true rfl) (Nat.le_of_ble_eq_true rfl) rfl (fun v1 hh1 hp1 => ?_)
  obtain ⟨rfl, Na1, hA1, rfl⟩ := hp1
  exact x_ireturn d_RD_comma_6 rfl rfl (x_YEi _ ⟨rfl, Na1, hA1, rfl⟩ (fun _ _ => rfl))
