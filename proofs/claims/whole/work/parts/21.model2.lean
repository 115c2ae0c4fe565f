/-! the model's methods without loops -/
theorem ix_nI {p m : Int32} {k : Nat} (h : inR p 0 (m - 1)) (hm : m = nI k) (hk : k < 2 ^ 30) : ∃ j, j < k ∧ p = nI j := by
  have hv := ix_vp h hm (Nat.le_refl k) hk
  obtain ⟨j, hj, rfl⟩ := nI_of h.1
  refine ⟨j, ?_, rfl⟩
  have := Nat.not_le.mp fun q => hv (Or.inr q)
  rw [nI_clamp hj] at this
  exact this
theorem rg_nI {p b : Int32} {N : Nat} (h : inR p 0 b) (hb : b.toInt = N) : ∃ j, j ≤ N ∧ p = nI j := by
  obtain ⟨h1, h2⟩ := h
  obtain ⟨j, hj, rfl⟩ := nI_of h1
  refine ⟨j, ?_, rfl⟩
  have h3 : ¬ b.toInt < (nI j).toInt := fun q => h2 (Int32.lt_iff_toInt_lt.mpr q)
  rw [nI_toInt hj] at h3
  omega
theorem nI_vp {k N : Nat} (h : k < N) (hN : N < 2 ^ 30) : vp_in (nI k) N := vp_in_nI h (by omega)
theorem nIm (a b : Nat) : nI a * nI b = nI (a * b) := pk_mul a b
theorem MI_pn {s : Sg} (h : MI s) {p : Int32} (hp : isP s p) : ∃ j, j < 24 ∧ p = nI j := by
  obtain ⟨⟨n, h1, h2⟩, -⟩ := of_eq_true h
  obtain ⟨j, h3, h4⟩ := ix_nI hp h2 (by omega)
  exact ⟨j, by omega, h4⟩
theorem MI_cn {s : Sg} (h : MI s) {p : Int32} (hp : isC s p) : ∃ j, j < 30 ∧ p = nI j := by
  obtain ⟨-, -, n, h1, h2⟩ := of_eq_true h
  obtain ⟨j, h3, h4⟩ := ix_nI hp h2 (by omega)
  exact ⟨j, by omega, h4⟩
theorem dX5_home_0 : decode cX5_home 0 = .ok (.aload_n 0, 1) := by decide +kernel
theorem dX5_home_1 : decode cX5_home 1 = .ok (.aload_n 0, 1) := by decide +kernel
theorem dX5_home_2 : decode cX5_home 2 = .ok (.iload_n 1, 1) := by decide +kernel
theorem dX5_home_3 : decode cX5_home 3 = .ok (.invokevirtual 106, 3) := by decide +kernel
theorem dX5_home_6 : decode cX5_home 6 = .ok (.ifCond .ne 7, 3) := by decide +kernel
theorem dX5_home_9 : decode cX5_home 9 = .ok (.iconst 1, 1) := by decide +kernel
theorem dX5_home_10 : decode cX5_home 10 = .ok (.goto 15, 3) := by decide +kernel
theorem dX5_home_13 : decode cX5_home 13 = .ok (.iload_n 2, 1) := by decide +kernel
theorem dX5_home_14 : decode cX5_home 14 = .ok (.invokestatic 111, 3) := by decide +kernel
theorem dX5_home_17 : decode cX5_home 17 = .ok (.ifCond .eq 7, 3) := by decide +kernel
theorem dX5_home_20 : decode cX5_home 20 = .ok (.iconst 0, 1) := by decide +kernel
theorem dX5_home_21 : decode cX5_home 21 = .ok (.goto 4, 3) := by decide +kernel
theorem dX5_home_24 : decode cX5_home 24 = .ok (.iconst 2, 1) := by decide +kernel
theorem dX5_home_25 : decode cX5_home 25 = .ok (.invokevirtual 114, 3) := by decide +kernel
theorem dX5_home_28 : decode cX5_home 28 = .ok (.ifCond .eq 5, 3) := by decide +kernel
theorem dX5_home_31 : decode cX5_home 31 = .ok (.iconst 0, 1) := by decide +kernel
theorem dX5_home_32 : decode cX5_home 32 = .ok (.ireturn, 1) := by decide +kernel
theorem dX5_home_33 : decode cX5_home 33 = .ok (.aload_n 0, 1) := by decide +kernel
theorem dX5_home_34 : decode cX5_home 34 = .ok (.getfield 13, 3) := by decide +kernel
theorem dX5_home_37 : decode cX5_home 37 = .ok (.iload_n 1, 1) := by decide +kernel
theorem dX5_home_38 : decode cX5_home 38 = .ok (.iaload, 1) := by decide +kernel
theorem dX5_home_39 : decode cX5_home 39 = .ok (.istore_n 3, 1) := by decide +kernel
theorem dX5_home_40 : decode cX5_home 40 = .ok (.aload_n 0, 1) := by decide +kernel
theorem dX5_home_41 : decode cX5_home 41 = .ok (.getfield 13, 3) := by decide +kernel
theorem dX5_home_44 : decode cX5_home 44 = .ok (.iload_n 1, 1) := by decide +kernel
theorem dX5_home_45 : decode cX5_home 45 = .ok (.iload_n 2, 1) := by decide +kernel
theorem dX5_home_46 : decode cX5_home 46 = .ok (.iastore, 1) := by decide +kernel
theorem dX5_home_47 : decode cX5_home 47 = .ok (.iload_n 3, 1) := by decide +kernel
theorem dX5_home_48 : decode cX5_home 48 = .ok (.ireturn, 1) := by decide +kernel
def tab_X5_home : List (Nat × Sem) := [(0, op_al 0 1), (1, op_al 0 2), (2, op_il 1 3), (3, op_callV 7 sp_X5_isPerson 2 0 6), (6, op_if (fun x => ¬ x = 0) 13 9), (9, op_ic 1 10), (10, op_go 25), (13, op_il 2 14), (14, op_call sp_X5_isPlace 1 0 17), (17, op_if (fun x => x = 0) 24 20), (20, op_ic 0 21), (21, op_go 25), (24, op_ic 2 25), (25, op_callV 7 sp_X5_fails 2 0 28), (28, op_if (fun x => x = 0) 33 31), (31, op_ic 0 32), (32, op_iret), (33, op_al 0 34), (34, op_gf 7 3 37), (37, op_il 1 38), (38, op_iald 39), (39, op_is 3 40), (40, op_al 0 41), (41, op_gf 7 3 44), (44, op_il 1 45), (45, op_il 2 46), (46, op_iast 47), (47, op_il 3 48), (48, op_iret)]
set_option maxRecDepth 20000 in
theorem tok_X5_home : ∀ q ∈ tab_X5_home, Snd RX5 cX5_home 4 2 0 (some .int) q.1 q.2 := by
  unfold tab_X5_home
  refine tcons (ok_aload_n dX5_home_0 rfl rfl) ?_
  refine tcons (ok_aload_n dX5_home_1 rfl rfl) ?_
  refine tcons (ok_iload_n dX5_home_2 rfl rfl) ?_
  refine tcons (ok_invokevirtual M_X5_isPerson (C := RX5) (T := TX5) (nf := 33) rfl w_1101 w_1103 w_19 w_49 w_1104 ⟨rfl, by decide, by decide, by decide +kernel⟩ (by decide) (by decide) dX5_home_3 rfl) ?_
  refine tcons (ok_if_ne dX5_home_6 rfl rfl) ?_
  refine tcons (ok_iconst dX5_home_9 rfl rfl) ?_
  refine tcons (ok_goto dX5_home_10 rfl) ?_
  refine tcons (ok_iload_n dX5_home_13 rfl rfl) ?_
  refine tcons (ok_invokestatic M_X5_isPlace w_1109 w_1110 w_49 w_1111 ⟨by decide, by decide, by decide +kernel⟩ (by decide) (by decide) dX5_home_14 rfl) ?_
  refine tcons (ok_if_eq dX5_home_17 rfl rfl) ?_
  refine tcons (ok_iconst dX5_home_20 rfl rfl) ?_
  refine tcons (ok_goto dX5_home_21 rfl) ?_
  refine tcons (ok_iconst dX5_home_24 rfl rfl) ?_
  refine tcons (ok_invokevirtual M_X5_fails (C := RX5) (T := TX5) (nf := 33) rfl w_1112 w_1114 w_20 w_49 w_1115 ⟨rfl, by decide, by decide, by decide +kernel⟩ (by decide) (by decide) dX5_home_25 rfl) ?_
  refine tcons (ok_if_eq dX5_home_28 rfl rfl) ?_
  refine tcons (ok_iconst dX5_home_31 rfl rfl) ?_
  refine tcons (ok_ireturn rfl dX5_home_32) ?_
  refine tcons (ok_aload_n dX5_home_33 rfl rfl) ?_
  refine tcons (ok_getfield (C := RX5) (T := TX5) (n := 33) rfl in_X5 (by decide) w_996 dX5_home_34 rfl) ?_
  refine tcons (ok_iload_n dX5_home_37 rfl rfl) ?_
  refine tcons (ok_iaload dX5_home_38 rfl) ?_
  refine tcons (ok_istore_n dX5_home_39 rfl (by decide) rfl) ?_
  refine tcons (ok_aload_n dX5_home_40 rfl rfl) ?_
  refine tcons (ok_getfield (C := RX5) (T := TX5) (n := 33) rfl in_X5 (by decide) w_996 dX5_home_41 rfl) ?_
  refine tcons (ok_iload_n dX5_home_44 rfl rfl) ?_
  refine tcons (ok_iload_n dX5_home_45 rfl rfl) ?_
  refine tcons (ok_iastore dX5_home_46 rfl) ?_
  refine tcons (ok_iload_n dX5_home_47 rfl rfl) ?_
  refine tcons (ok_ireturn rfl dX5_home_48) ?_
  exact fun _ h => nomatch h
def sp_X5_home : Spc := fun av s N _ => match av with
  | [.inl (.inr (20, 0)), .inl (.inl p), .inl (.inl r)] => MI s ∧ f2 (isP s p) (inR r 0 7) (some (aI 0)) N s (N (some (aI (s.2.1 23 0 (cl p)))) (stS (th s 0) 23 0 (cl p) r))
  | _ => False
set_option maxRecDepth 20000 in
set_option maxHeartbeats 2000000 in
theorem M_X5_home : AMet yX5_home cX5_home 4 (some .int) 2 0 sp_X5_home := by
  refine AMet.mk (own := RX5) (by decide) rfl [0, 1, 2, 3] rfl tok_X5_home 200 ?_
  intro av s0 N X h
  unfold sp_X5_home at h
  split at h
  rotate_left
  · exact h.elim
  refine ⟨fun _ => none, ?_, fun pc P hP => nomatch hP⟩
  repeat' (first | apply And.intro | (intro q; exact absurd q (by decide)) | intro _)
  all_goals first | decide | (exact (rfl : (0 : Nat) = 0)) | (exact Nat.le_of_ble_eq_true rfl) | (exact Ib_of (MI_p h.1 (by assumption))) | (simp_all [-Int32.not_lt, -Int32.not_le, f2, stS_get]; done) | (simp_all [-Int32.not_lt, -Int32.not_le, ← Int32.not_le, f2, stS_get]; done) | (simp_all [f2, stS_get]; done)
theorem dX5_order_0 : decode cX5_order 0 = .ok (.aload_n 0, 1) := by decide +kernel
theorem dX5_order_1 : decode cX5_order 1 = .ok (.aload_n 0, 1) := by decide +kernel
theorem dX5_order_2 : decode cX5_order 2 = .ok (.iload_n 1, 1) := by decide +kernel
theorem dX5_order_3 : decode cX5_order 3 = .ok (.invokevirtual 106, 3) := by decide +kernel
theorem dX5_order_6 : decode cX5_order 6 = .ok (.ifCond .ne 7, 3) := by decide +kernel
theorem dX5_order_9 : decode cX5_order 9 = .ok (.iconst 1, 1) := by decide +kernel
theorem dX5_order_10 : decode cX5_order 10 = .ok (.goto 26, 3) := by decide +kernel
theorem dX5_order_13 : decode cX5_order 13 = .ok (.aload_n 0, 1) := by decide +kernel
theorem dX5_order_14 : decode cX5_order 14 = .ok (.getfield 26, 3) := by decide +kernel
theorem dX5_order_17 : decode cX5_order 17 = .ok (.iload_n 1, 1) := by decide +kernel
theorem dX5_order_18 : decode cX5_order 18 = .ok (.baload, 1) := by decide +kernel
theorem dX5_order_19 : decode cX5_order 19 = .ok (.ifCond .ne 12, 3) := by decide +kernel
theorem dX5_order_22 : decode cX5_order 22 = .ok (.aload_n 0, 1) := by decide +kernel
theorem dX5_order_23 : decode cX5_order 23 = .ok (.getfield 19, 3) := by decide +kernel
theorem dX5_order_26 : decode cX5_order 26 = .ok (.iload_n 1, 1) := by decide +kernel
theorem dX5_order_27 : decode cX5_order 27 = .ok (.baload, 1) := by decide +kernel
theorem dX5_order_28 : decode cX5_order 28 = .ok (.ifCond .eq 7, 3) := by decide +kernel
theorem dX5_order_31 : decode cX5_order 31 = .ok (.iconst 2, 1) := by decide +kernel
theorem dX5_order_32 : decode cX5_order 32 = .ok (.goto 4, 3) := by decide +kernel
theorem dX5_order_35 : decode cX5_order 35 = .ok (.iconst 0, 1) := by decide +kernel
theorem dX5_order_36 : decode cX5_order 36 = .ok (.invokevirtual 114, 3) := by decide +kernel
theorem dX5_order_39 : decode cX5_order 39 = .ok (.ifCond .ne 10, 3) := by decide +kernel
theorem dX5_order_42 : decode cX5_order 42 = .ok (.aload_n 0, 1) := by decide +kernel
theorem dX5_order_43 : decode cX5_order 43 = .ok (.getfield 19, 3) := by decide +kernel
theorem dX5_order_46 : decode cX5_order 46 = .ok (.iload_n 1, 1) := by decide +kernel
theorem dX5_order_47 : decode cX5_order 47 = .ok (.iconst 1, 1) := by decide +kernel
theorem dX5_order_48 : decode cX5_order 48 = .ok (.bastore, 1) := by decide +kernel
theorem dX5_order_49 : decode cX5_order 49 = .ok (.return_, 1) := by decide +kernel
def tab_X5_order : List (Nat × Sem) := [(0, op_al 0 1), (1, op_al 0 2), (2, op_il 1 3), (3, op_callV 7 sp_X5_isPerson 2 0 6), (6, op_if (fun x => ¬ x = 0) 13 9), (9, op_ic 1 10), (10, op_go 36), (13, op_al 0 14), (14, op_gf 7 7 17), (17, op_il 1 18), (18, op_bald 19), (19, op_if (fun x => ¬ x = 0) 31 22), (22, op_al 0 23), (23, op_gf 7 5 26), (26, op_il 1 27), (27, op_bald 28), (28, op_if (fun x => x = 0) 35 31), (31, op_ic 2 32), (32, op_go 36), (35, op_ic 0 36), (36, op_callV 7 sp_X5_fails 2 0 39), (39, op_if (fun x => ¬ x = 0) 49 42), (42, op_al 0 43), (43, op_gf 7 5 46), (46, op_il 1 47), (47, op_ic 1 48), (48, op_bast 49), (49, op_vret)]
set_option maxRecDepth 20000 in
theorem tok_X5_order : ∀ q ∈ tab_X5_order, Snd RX5 cX5_order 2 2 0 none q.1 q.2 := by
  unfold tab_X5_order
  refine tcons (ok_aload_n dX5_order_0 rfl rfl) ?_
  refine tcons (ok_aload_n dX5_order_1 rfl rfl) ?_
  refine tcons (ok_iload_n dX5_order_2 rfl rfl) ?_
  refine tcons (ok_invokevirtual M_X5_isPerson (C := RX5) (T := TX5) (nf := 33) rfl w_1101 w_1103 w_19 w_49 w_1104 ⟨rfl, by decide, by decide, by decide +kernel⟩ (by decide) (by decide) dX5_order_3 rfl) ?_
  refine tcons (ok_if_ne dX5_order_6 rfl rfl) ?_
  refine tcons (ok_iconst dX5_order_9 rfl rfl) ?_
  refine tcons (ok_goto dX5_order_10 rfl) ?_
  refine tcons (ok_aload_n dX5_order_13 rfl rfl) ?_
  refine tcons (ok_getfield (C := RX5) (T := TX5) (n := 33) rfl in_X5 (by decide) w_1000 dX5_order_14 rfl) ?_
  refine tcons (ok_iload_n dX5_order_17 rfl rfl) ?_
  refine tcons (ok_baload dX5_order_18 rfl) ?_
  refine tcons (ok_if_ne dX5_order_19 rfl rfl) ?_
  refine tcons (ok_aload_n dX5_order_22 rfl rfl) ?_
  refine tcons (ok_getfield (C := RX5) (T := TX5) (n := 33) rfl in_X5 (by decide) w_998 dX5_order_23 rfl) ?_
  refine tcons (ok_iload_n dX5_order_26 rfl rfl) ?_
  refine tcons (ok_baload dX5_order_27 rfl) ?_
  refine tcons (ok_if_eq dX5_order_28 rfl rfl) ?_
  refine tcons (ok_iconst dX5_order_31 rfl rfl) ?_
  refine tcons (ok_goto dX5_order_32 rfl) ?_
  refine tcons (ok_iconst dX5_order_35 rfl rfl) ?_
  refine tcons (ok_invokevirtual M_X5_fails (C := RX5) (T := TX5) (nf := 33) rfl w_1112 w_1114 w_20 w_49 w_1115 ⟨rfl, by decide, by decide, by decide +kernel⟩ (by decide) (by decide) dX5_order_36 rfl) ?_
  refine tcons (ok_if_ne dX5_order_39 rfl rfl) ?_
  refine tcons (ok_aload_n dX5_order_42 rfl rfl) ?_
  refine tcons (ok_getfield (C := RX5) (T := TX5) (n := 33) rfl in_X5 (by decide) w_998 dX5_order_43 rfl) ?_
  refine tcons (ok_iload_n dX5_order_46 rfl rfl) ?_
  refine tcons (ok_iconst dX5_order_47 rfl rfl) ?_
  refine tcons (ok_bastore dX5_order_48 rfl) ?_
  refine tcons (ok_vreturn rfl dX5_order_49) ?_
  exact fun _ h => nomatch h
def sp_X5_order : Spc := fun av s N _ => match av with
  | [.inl (.inr (20, 0)), .inl (.inl p)] => MI s ∧ f2 (isP s p) (s.2.1 27 0 (cl p) = 0 ∧ s.2.1 25 0 (cl p) = 0) none N s (N none (stS (th s 0) 25 0 (cl p) 1))
  | _ => False
set_option maxRecDepth 20000 in
set_option maxHeartbeats 2000000 in
theorem M_X5_order : AMet yX5_order cX5_order 2 none 2 0 sp_X5_order := by
  refine AMet.mk (own := RX5) (by decide) rfl [0, 1] rfl tok_X5_order 200 ?_
  intro av s0 N X h
  unfold sp_X5_order at h
  split at h
  rotate_left
  · exact h.elim
  refine ⟨fun _ => none, ?_, fun pc P hP => nomatch hP⟩
  repeat' (first | apply And.intro | (intro q; exact absurd q (by decide)) | intro _)
  all_goals first | decide | (exact (rfl : (0 : Nat) = 0)) | (exact Nat.le_of_ble_eq_true rfl) | (exact Ib_of (MI_p h.1 (by assumption))) | (simp_all [-Int32.not_lt, -Int32.not_le, f2, stS_get]; done) | (simp_all [-Int32.not_lt, -Int32.not_le, ← Int32.not_le, f2, stS_get]; done) | (simp_all [f2, stS_get]; done)
theorem dX5_ban_0 : decode cX5_ban 0 = .ok (.aload_n 0, 1) := by decide +kernel
theorem dX5_ban_1 : decode cX5_ban 1 = .ok (.aload_n 0, 1) := by decide +kernel
theorem dX5_ban_2 : decode cX5_ban 2 = .ok (.iload_n 1, 1) := by decide +kernel
theorem dX5_ban_3 : decode cX5_ban 3 = .ok (.invokevirtual 106, 3) := by decide +kernel
theorem dX5_ban_6 : decode cX5_ban 6 = .ok (.ifCond .eq 7, 3) := by decide +kernel
theorem dX5_ban_9 : decode cX5_ban 9 = .ok (.iconst 0, 1) := by decide +kernel
theorem dX5_ban_10 : decode cX5_ban 10 = .ok (.goto 4, 3) := by decide +kernel
theorem dX5_ban_13 : decode cX5_ban 13 = .ok (.iconst 1, 1) := by decide +kernel
theorem dX5_ban_14 : decode cX5_ban 14 = .ok (.invokevirtual 114, 3) := by decide +kernel
theorem dX5_ban_17 : decode cX5_ban 17 = .ok (.ifCond .eq 5, 3) := by decide +kernel
theorem dX5_ban_20 : decode cX5_ban 20 = .ok (.iconst 0, 1) := by decide +kernel
theorem dX5_ban_21 : decode cX5_ban 21 = .ok (.ireturn, 1) := by decide +kernel
theorem dX5_ban_22 : decode cX5_ban 22 = .ok (.aload_n 0, 1) := by decide +kernel
theorem dX5_ban_23 : decode cX5_ban 23 = .ok (.getfield 23, 3) := by decide +kernel
theorem dX5_ban_26 : decode cX5_ban 26 = .ok (.iload_n 1, 1) := by decide +kernel
theorem dX5_ban_27 : decode cX5_ban 27 = .ok (.aload_n 0, 1) := by decide +kernel
theorem dX5_ban_28 : decode cX5_ban 28 = .ok (.getfield 23, 3) := by decide +kernel
theorem dX5_ban_31 : decode cX5_ban 31 = .ok (.iload_n 1, 1) := by decide +kernel
theorem dX5_ban_32 : decode cX5_ban 32 = .ok (.baload, 1) := by decide +kernel
theorem dX5_ban_33 : decode cX5_ban 33 = .ok (.ifCond .ne 7, 3) := by decide +kernel
theorem dX5_ban_36 : decode cX5_ban 36 = .ok (.iconst 1, 1) := by decide +kernel
theorem dX5_ban_37 : decode cX5_ban 37 = .ok (.goto 4, 3) := by decide +kernel
theorem dX5_ban_40 : decode cX5_ban 40 = .ok (.iconst 0, 1) := by decide +kernel
theorem dX5_ban_41 : decode cX5_ban 41 = .ok (.bastore, 1) := by decide +kernel
theorem dX5_ban_42 : decode cX5_ban 42 = .ok (.aload_n 0, 1) := by decide +kernel
theorem dX5_ban_43 : decode cX5_ban 43 = .ok (.getfield 23, 3) := by decide +kernel
theorem dX5_ban_46 : decode cX5_ban 46 = .ok (.iload_n 1, 1) := by decide +kernel
theorem dX5_ban_47 : decode cX5_ban 47 = .ok (.baload, 1) := by decide +kernel
theorem dX5_ban_48 : decode cX5_ban 48 = .ok (.ireturn, 1) := by decide +kernel
def tab_X5_ban : List (Nat × Sem) := [(0, op_al 0 1), (1, op_al 0 2), (2, op_il 1 3), (3, op_callV 7 sp_X5_isPerson 2 0 6), (6, op_if (fun x => x = 0) 13 9), (9, op_ic 0 10), (10, op_go 14), (13, op_ic 1 14), (14, op_callV 7 sp_X5_fails 2 0 17), (17, op_if (fun x => x = 0) 22 20), (20, op_ic 0 21), (21, op_zret), (22, op_al 0 23), (23, op_gf 7 6 26), (26, op_il 1 27), (27, op_al 0 28), (28, op_gf 7 6 31), (31, op_il 1 32), (32, op_bald 33), (33, op_if (fun x => ¬ x = 0) 40 36), (36, op_ic 1 37), (37, op_go 41), (40, op_ic 0 41), (41, op_bast 42), (42, op_al 0 43), (43, op_gf 7 6 46), (46, op_il 1 47), (47, op_bald 48), (48, op_zret)]
set_option maxRecDepth 20000 in
theorem tok_X5_ban : ∀ q ∈ tab_X5_ban, Snd RX5 cX5_ban 2 2 0 (some .boolean) q.1 q.2 := by
  unfold tab_X5_ban
  refine tcons (ok_aload_n dX5_ban_0 rfl rfl) ?_
  refine tcons (ok_aload_n dX5_ban_1 rfl rfl) ?_
  refine tcons (ok_iload_n dX5_ban_2 rfl rfl) ?_
  refine tcons (ok_invokevirtual M_X5_isPerson (C := RX5) (T := TX5) (nf := 33) rfl w_1101 w_1103 w_19 w_49 w_1104 ⟨rfl, by decide, by decide, by decide +kernel⟩ (by decide) (by decide) dX5_ban_3 rfl) ?_
  refine tcons (ok_if_eq dX5_ban_6 rfl rfl) ?_
  refine tcons (ok_iconst dX5_ban_9 rfl rfl) ?_
  refine tcons (ok_goto dX5_ban_10 rfl) ?_
  refine tcons (ok_iconst dX5_ban_13 rfl rfl) ?_
  refine tcons (ok_invokevirtual M_X5_fails (C := RX5) (T := TX5) (nf := 33) rfl w_1112 w_1114 w_20 w_49 w_1115 ⟨rfl, by decide, by decide, by decide +kernel⟩ (by decide) (by decide) dX5_ban_14 rfl) ?_
  refine tcons (ok_if_eq dX5_ban_17 rfl rfl) ?_
  refine tcons (ok_iconst dX5_ban_20 rfl rfl) ?_
  refine tcons (ok_zreturn rfl (Or.inl rfl) dX5_ban_21) ?_
  refine tcons (ok_aload_n dX5_ban_22 rfl rfl) ?_
  refine tcons (ok_getfield (C := RX5) (T := TX5) (n := 33) rfl in_X5 (by decide) w_999 dX5_ban_23 rfl) ?_
  refine tcons (ok_iload_n dX5_ban_26 rfl rfl) ?_
  refine tcons (ok_aload_n dX5_ban_27 rfl rfl) ?_
  refine tcons (ok_getfield (C := RX5) (T := TX5) (n := 33) rfl in_X5 (by decide) w_999 dX5_ban_28 rfl) ?_
  refine tcons (ok_iload_n dX5_ban_31 rfl rfl) ?_
  refine tcons (ok_baload dX5_ban_32 rfl) ?_
  refine tcons (ok_if_ne dX5_ban_33 rfl rfl) ?_
  refine tcons (ok_iconst dX5_ban_36 rfl rfl) ?_
  refine tcons (ok_goto dX5_ban_37 rfl) ?_
  refine tcons (ok_iconst dX5_ban_40 rfl rfl) ?_
  refine tcons (ok_bastore dX5_ban_41 rfl) ?_
  refine tcons (ok_aload_n dX5_ban_42 rfl rfl) ?_
  refine tcons (ok_getfield (C := RX5) (T := TX5) (n := 33) rfl in_X5 (by decide) w_999 dX5_ban_43 rfl) ?_
  refine tcons (ok_iload_n dX5_ban_46 rfl rfl) ?_
  refine tcons (ok_baload dX5_ban_47 rfl) ?_
  refine tcons (ok_zreturn rfl (Or.inl rfl) dX5_ban_48) ?_
  exact fun _ h => nomatch h
def sp_X5_ban : Spc := fun av s N _ => match av with
  | [.inl (.inr (20, 0)), .inl (.inl p)] => MI s ∧ f1 (isP s p) (some (aI 0)) N s ((s.2.1 26 0 (cl p) = 0 → N (some (aI 1)) (stS (th s 0) 26 0 (cl p) 1)) ∧ (¬ s.2.1 26 0 (cl p) = 0 → N (some (aI 0)) (stS (th s 0) 26 0 (cl p) 0)))
  | _ => False
set_option maxRecDepth 20000 in
set_option maxHeartbeats 2000000 in
theorem M_X5_ban : AMet yX5_ban cX5_ban 2 (some .boolean) 2 0 sp_X5_ban := by
  refine AMet.mk (own := RX5) (by decide) rfl [0, 1] rfl tok_X5_ban 200 ?_
  intro av s0 N X h
  unfold sp_X5_ban at h
  split at h
  rotate_left
  · exact h.elim
  refine ⟨fun _ => none, ?_, fun pc P hP => nomatch hP⟩
  repeat' (first | apply And.intro | (intro q; exact absurd q (by decide)) | intro _)
  all_goals first | decide | (exact (rfl : (0 : Nat) = 0)) | (exact Nat.le_of_ble_eq_true rfl) | (exact Ib_of (MI_p h.1 (by assumption))) | (simp_all [-Int32.not_lt, -Int32.not_le, f1, stS_get]; done) | (simp_all [-Int32.not_lt, -Int32.not_le, ← Int32.not_le, f1, stS_get]; done) | (simp_all [f1, stS_get]; done)
theorem dX5_error_0 : decode cX5_error 0 = .ok (.aload_n 0, 1) := by decide +kernel
theorem dX5_error_1 : decode cX5_error 1 = .ok (.iload_n 1, 1) := by decide +kernel
theorem dX5_error_2 : decode cX5_error 2 = .ok (.invokestatic 111, 3) := by decide +kernel
theorem dX5_error_5 : decode cX5_error 5 = .ok (.ifCond .eq 7, 3) := by decide +kernel
theorem dX5_error_8 : decode cX5_error 8 = .ok (.iconst 0, 1) := by decide +kernel
theorem dX5_error_9 : decode cX5_error 9 = .ok (.goto 4, 3) := by decide +kernel
theorem dX5_error_12 : decode cX5_error 12 = .ok (.iconst 1, 1) := by decide +kernel
theorem dX5_error_13 : decode cX5_error 13 = .ok (.invokevirtual 114, 3) := by decide +kernel
theorem dX5_error_16 : decode cX5_error 16 = .ok (.ifCond .eq 5, 3) := by decide +kernel
theorem dX5_error_19 : decode cX5_error 19 = .ok (.iconst 0, 1) := by decide +kernel
theorem dX5_error_20 : decode cX5_error 20 = .ok (.ireturn, 1) := by decide +kernel
theorem dX5_error_21 : decode cX5_error 21 = .ok (.aload_n 0, 1) := by decide +kernel
theorem dX5_error_22 : decode cX5_error 22 = .ok (.getfield 38, 3) := by decide +kernel
theorem dX5_error_25 : decode cX5_error 25 = .ok (.iload_n 1, 1) := by decide +kernel
theorem dX5_error_26 : decode cX5_error 26 = .ok (.aload_n 0, 1) := by decide +kernel
theorem dX5_error_27 : decode cX5_error 27 = .ok (.getfield 38, 3) := by decide +kernel
theorem dX5_error_30 : decode cX5_error 30 = .ok (.iload_n 1, 1) := by decide +kernel
theorem dX5_error_31 : decode cX5_error 31 = .ok (.baload, 1) := by decide +kernel
theorem dX5_error_32 : decode cX5_error 32 = .ok (.ifCond .ne 7, 3) := by decide +kernel
theorem dX5_error_35 : decode cX5_error 35 = .ok (.iconst 1, 1) := by decide +kernel
theorem dX5_error_36 : decode cX5_error 36 = .ok (.goto 4, 3) := by decide +kernel
theorem dX5_error_39 : decode cX5_error 39 = .ok (.iconst 0, 1) := by decide +kernel
theorem dX5_error_40 : decode cX5_error 40 = .ok (.bastore, 1) := by decide +kernel
theorem dX5_error_41 : decode cX5_error 41 = .ok (.aload_n 0, 1) := by decide +kernel
theorem dX5_error_42 : decode cX5_error 42 = .ok (.getfield 38, 3) := by decide +kernel
theorem dX5_error_45 : decode cX5_error 45 = .ok (.iload_n 1, 1) := by decide +kernel
theorem dX5_error_46 : decode cX5_error 46 = .ok (.baload, 1) := by decide +kernel
theorem dX5_error_47 : decode cX5_error 47 = .ok (.ireturn, 1) := by decide +kernel
def tab_X5_error : List (Nat × Sem) := [(0, op_al 0 1), (1, op_il 1 2), (2, op_call sp_X5_isPlace 1 0 5), (5, op_if (fun x => x = 0) 12 8), (8, op_ic 0 9), (9, op_go 13), (12, op_ic 1 13), (13, op_callV 7 sp_X5_fails 2 0 16), (16, op_if (fun x => x = 0) 21 19), (19, op_ic 0 20), (20, op_zret), (21, op_al 0 22), (22, op_gf 7 11 25), (25, op_il 1 26), (26, op_al 0 27), (27, op_gf 7 11 30), (30, op_il 1 31), (31, op_bald 32), (32, op_if (fun x => ¬ x = 0) 39 35), (35, op_ic 1 36), (36, op_go 40), (39, op_ic 0 40), (40, op_bast 41), (41, op_al 0 42), (42, op_gf 7 11 45), (45, op_il 1 46), (46, op_bald 47), (47, op_zret)]
set_option maxRecDepth 20000 in
theorem tok_X5_error : ∀ q ∈ tab_X5_error, Snd RX5 cX5_error 2 2 0 (some .boolean) q.1 q.2 := by
  unfold tab_X5_error
  refine tcons (ok_aload_n dX5_error_0 rfl rfl) ?_
  refine tcons (ok_iload_n dX5_error_1 rfl rfl) ?_
  refine tcons (ok_invokestatic M_X5_isPlace w_1109 w_1110 w_49 w_1111 ⟨by decide, by decide, by decide +kernel⟩ (by decide) (by decide) dX5_error_2 rfl) ?_
  refine tcons (ok_if_eq dX5_error_5 rfl rfl) ?_
  refine tcons (ok_iconst dX5_error_8 rfl rfl) ?_
  refine tcons (ok_goto dX5_error_9 rfl) ?_
  refine tcons (ok_iconst dX5_error_12 rfl rfl) ?_
  refine tcons (ok_invokevirtual M_X5_fails (C := RX5) (T := TX5) (nf := 33) rfl w_1112 w_1114 w_20 w_49 w_1115 ⟨rfl, by decide, by decide, by decide +kernel⟩ (by decide) (by decide) dX5_error_13 rfl) ?_
  refine tcons (ok_if_eq dX5_error_16 rfl rfl) ?_
  refine tcons (ok_iconst dX5_error_19 rfl rfl) ?_
  refine tcons (ok_zreturn rfl (Or.inl rfl) dX5_error_20) ?_
  refine tcons (ok_aload_n dX5_error_21 rfl rfl) ?_
  refine tcons (ok_getfield (C := RX5) (T := TX5) (n := 33) rfl in_X5 (by decide) w_1004 dX5_error_22 rfl) ?_
  refine tcons (ok_iload_n dX5_error_25 rfl rfl) ?_
  refine tcons (ok_aload_n dX5_error_26 rfl rfl) ?_
  refine tcons (ok_getfield (C := RX5) (T := TX5) (n := 33) rfl in_X5 (by decide) w_1004 dX5_error_27 rfl) ?_
  refine tcons (ok_iload_n dX5_error_30 rfl rfl) ?_
  refine tcons (ok_baload dX5_error_31 rfl) ?_
  refine tcons (ok_if_ne dX5_error_32 rfl rfl) ?_
  refine tcons (ok_iconst dX5_error_35 rfl rfl) ?_
  refine tcons (ok_goto dX5_error_36 rfl) ?_
  refine tcons (ok_iconst dX5_error_39 rfl rfl) ?_
  refine tcons (ok_bastore dX5_error_40 rfl) ?_
  refine tcons (ok_aload_n dX5_error_41 rfl rfl) ?_
  refine tcons (ok_getfield (C := RX5) (T := TX5) (n := 33) rfl in_X5 (by decide) w_1004 dX5_error_42 rfl) ?_
  refine tcons (ok_iload_n dX5_error_45 rfl rfl) ?_
  refine tcons (ok_baload dX5_error_46 rfl) ?_
  refine tcons (ok_zreturn rfl (Or.inl rfl) dX5_error_47) ?_
  exact fun _ h => nomatch h
def sp_X5_error : Spc := fun av s N _ => match av with
  | [.inl (.inr (20, 0)), .inl (.inl p)] => f1 (inR p 0 7) (some (aI 0)) N s ((s.2.1 31 0 (cl p) = 0 → N (some (aI 1)) (stS (th s 0) 31 0 (cl p) 1)) ∧ (¬ s.2.1 31 0 (cl p) = 0 → N (some (aI 0)) (stS (th s 0) 31 0 (cl p) 0)))
  | _ => False
set_option maxRecDepth 20000 in
set_option maxHeartbeats 2000000 in
theorem M_X5_error : AMet yX5_error cX5_error 2 (some .boolean) 2 0 sp_X5_error := by
  refine AMet.mk (own := RX5) (by decide) rfl [0, 1] rfl tok_X5_error 200 ?_
  intro av s0 N X h
  unfold sp_X5_error at h
  split at h
  rotate_left
  · exact h.elim
  refine ⟨fun _ => none, ?_, fun pc P hP => nomatch hP⟩
  repeat' (first | apply And.intro | (intro q; exact absurd q (by decide)) | intro _)
  all_goals first | decide | (exact (rfl : (0 : Nat) = 0)) | (exact Nat.le_of_ble_eq_true rfl) | (exact Ib_of (rg_vp (by assumption) (by decide) (by decide))) | (simp_all [-Int32.not_lt, -Int32.not_le, f1, stS_get]; done) | (simp_all [-Int32.not_lt, -Int32.not_le, ← Int32.not_le, f1, stS_get]; done) | (simp_all [f1, stS_get]; done)
theorem dX5_pass_0 : decode cX5_pass 0 = .ok (.aload_n 0, 1) := by decide +kernel
theorem dX5_pass_1 : decode cX5_pass 1 = .ok (.iload_n 1, 1) := by decide +kernel
theorem dX5_pass_2 : decode cX5_pass 2 = .ok (.iconst 1, 1) := by decide +kernel
theorem dX5_pass_3 : decode cX5_pass 3 = .ok (.sipush 10000, 3) := by decide +kernel
theorem dX5_pass_6 : decode cX5_pass 6 = .ok (.invokestatic 99, 3) := by decide +kernel
theorem dX5_pass_9 : decode cX5_pass 9 = .ok (.ifCond .eq 7, 3) := by decide +kernel
theorem dX5_pass_12 : decode cX5_pass 12 = .ok (.iconst 0, 1) := by decide +kernel
theorem dX5_pass_13 : decode cX5_pass 13 = .ok (.goto 4, 3) := by decide +kernel
theorem dX5_pass_16 : decode cX5_pass 16 = .ok (.iconst 1, 1) := by decide +kernel
theorem dX5_pass_17 : decode cX5_pass 17 = .ok (.invokevirtual 114, 3) := by decide +kernel
theorem dX5_pass_20 : decode cX5_pass 20 = .ok (.ifCond .eq 5, 3) := by decide +kernel
theorem dX5_pass_23 : decode cX5_pass 23 = .ok (.iconst 0, 1) := by decide +kernel
theorem dX5_pass_24 : decode cX5_pass 24 = .ok (.ireturn, 1) := by decide +kernel
theorem dX5_pass_25 : decode cX5_pass 25 = .ok (.aload_n 0, 1) := by decide +kernel
theorem dX5_pass_26 : decode cX5_pass 26 = .ok (.dup, 1) := by decide +kernel
theorem dX5_pass_27 : decode cX5_pass 27 = .ok (.getfield 117, 3) := by decide +kernel
theorem dX5_pass_30 : decode cX5_pass 30 = .ok (.iload_n 1, 1) := by decide +kernel
theorem dX5_pass_31 : decode cX5_pass 31 = .ok (.iadd, 1) := by decide +kernel
theorem dX5_pass_32 : decode cX5_pass 32 = .ok (.putfield 117, 3) := by decide +kernel
theorem dX5_pass_35 : decode cX5_pass 35 = .ok (.aload_n 0, 1) := by decide +kernel
theorem dX5_pass_36 : decode cX5_pass 36 = .ok (.getfield 117, 3) := by decide +kernel
theorem dX5_pass_39 : decode cX5_pass 39 = .ok (.ireturn, 1) := by decide +kernel
def tab_X5_pass : List (Nat × Sem) := [(0, op_al 0 1), (1, op_il 1 2), (2, op_ic 1 3), (3, op_ic 10000 6), (6, op_call sp_X5_isIn 3 0 9), (9, op_if (fun x => x = 0) 16 12), (12, op_ic 0 13), (13, op_go 17), (16, op_ic 1 17), (17, op_callV 7 sp_X5_fails 2 0 20), (20, op_if (fun x => x = 0) 25 23), (23, op_ic 0 24), (24, op_iret), (25, op_al 0 26), (26, op_dup 27), (27, op_gf 7 0 30), (30, op_il 1 31), (31, op_bin (fun x y => x + y) 32), (32, op_pf 7 0 35), (35, op_al 0 36), (36, op_gf 7 0 39), (39, op_iret)]
set_option maxRecDepth 20000 in
theorem tok_X5_pass : ∀ q ∈ tab_X5_pass, Snd RX5 cX5_pass 2 2 0 (some .int) q.1 q.2 := by
  unfold tab_X5_pass
  refine tcons (ok_aload_n dX5_pass_0 rfl rfl) ?_
  refine tcons (ok_iload_n dX5_pass_1 rfl rfl) ?_
  refine tcons (ok_iconst dX5_pass_2 rfl rfl) ?_
  refine tcons (ok_sipush dX5_pass_3 rfl rfl) ?_
  refine tcons (ok_invokestatic M_X5_isIn w_1105 w_1106 w_49 w_1107 ⟨by decide, by decide, by decide +kernel⟩ (by decide) (by decide) dX5_pass_6 rfl) ?_
  refine tcons (ok_if_eq dX5_pass_9 rfl rfl) ?_
  refine tcons (ok_iconst dX5_pass_12 rfl rfl) ?_
  refine tcons (ok_goto dX5_pass_13 rfl) ?_
  refine tcons (ok_iconst dX5_pass_16 rfl rfl) ?_
  refine tcons (ok_invokevirtual M_X5_fails (C := RX5) (T := TX5) (nf := 33) rfl w_1112 w_1114 w_20 w_49 w_1115 ⟨rfl, by decide, by decide, by decide +kernel⟩ (by decide) (by decide) dX5_pass_17 rfl) ?_
  refine tcons (ok_if_eq dX5_pass_20 rfl rfl) ?_
  refine tcons (ok_iconst dX5_pass_23 rfl rfl) ?_
  refine tcons (ok_ireturn rfl dX5_pass_24) ?_
  refine tcons (ok_aload_n dX5_pass_25 rfl rfl) ?_
  refine tcons (ok_dup dX5_pass_26 rfl) ?_
  refine tcons (ok_getfield (C := RX5) (T := TX5) (n := 33) rfl in_X5 (by decide) w_993 dX5_pass_27 rfl) ?_
  refine tcons (ok_iload_n dX5_pass_30 rfl rfl) ?_
  refine tcons (ok_iadd dX5_pass_31 rfl) ?_
  refine tcons (ok_putfield (C := RX5) (T := TX5) (n := 33) tyX5 .int rfl in_X5 tyX5_ok nmX5 (by decide) rfl w_993 rfl (Or.inl rfl) dX5_pass_32 rfl) ?_
  refine tcons (ok_aload_n dX5_pass_35 rfl rfl) ?_
  refine tcons (ok_getfield (C := RX5) (T := TX5) (n := 33) rfl in_X5 (by decide) w_993 dX5_pass_36 rfl) ?_
  refine tcons (ok_ireturn rfl dX5_pass_39) ?_
  exact fun _ h => nomatch h
def sp_X5_pass : Spc := fun av s N _ => match av with
  | [.inl (.inr (20, 0)), .inl (.inl p)] => f1 (inR p 1 10000) (some (aI 0)) N s (N (some (aI (s.2.1 20 0 0 + p))) (stS (th s 0) 20 0 0 (s.2.1 20 0 0 + p)))
  | _ => False
set_option maxRecDepth 20000 in
set_option maxHeartbeats 2000000 in
theorem M_X5_pass : AMet yX5_pass cX5_pass 2 (some .int) 2 0 sp_X5_pass := by
  refine AMet.mk (own := RX5) (by decide) rfl [0, 1] rfl tok_X5_pass 200 ?_
  intro av s0 N X h
  unfold sp_X5_pass at h
  split at h
  rotate_left
  · exact h.elim
  refine ⟨fun _ => none, ?_, fun pc P hP => nomatch hP⟩
  repeat' (first | apply And.intro | (intro q; exact absurd q (by decide)) | intro _)
  all_goals first | decide | (exact (rfl : (0 : Nat) = 0)) | (exact Nat.le_of_ble_eq_true rfl) | (simp_all [-Int32.not_lt, -Int32.not_le, f1, stS_get]; done) | (simp_all [-Int32.not_lt, -Int32.not_le, ← Int32.not_le, f1, stS_get]; done) | (simp_all [f1, stS_get]; done)
theorem dX5_faculty_0 : decode cX5_faculty 0 = .ok (.aload_n 0, 1) := by decide +kernel
theorem dX5_faculty_1 : decode cX5_faculty 1 = .ok (.iload_n 1, 1) := by decide +kernel
theorem dX5_faculty_2 : decode cX5_faculty 2 = .ok (.invokestatic 145, 3) := by decide +kernel
theorem dX5_faculty_5 : decode cX5_faculty 5 = .ok (.ifCond .eq 25, 3) := by decide +kernel
theorem dX5_faculty_8 : decode cX5_faculty 8 = .ok (.iload_n 2, 1) := by decide +kernel
theorem dX5_faculty_9 : decode cX5_faculty 9 = .ok (.invokestatic 111, 3) := by decide +kernel
theorem dX5_faculty_12 : decode cX5_faculty 12 = .ok (.ifCond .eq 18, 3) := by decide +kernel
theorem dX5_faculty_15 : decode cX5_faculty 15 = .ok (.iload_n 3, 1) := by decide +kernel
theorem dX5_faculty_16 : decode cX5_faculty 16 = .ok (.iconst 0, 1) := by decide +kernel
theorem dX5_faculty_17 : decode cX5_faculty 17 = .ok (.sipush 10000, 3) := by decide +kernel
theorem dX5_faculty_20 : decode cX5_faculty 20 = .ok (.invokestatic 99, 3) := by decide +kernel
theorem dX5_faculty_23 : decode cX5_faculty 23 = .ok (.ifCond .eq 7, 3) := by decide +kernel
theorem dX5_faculty_26 : decode cX5_faculty 26 = .ok (.iconst 0, 1) := by decide +kernel
theorem dX5_faculty_27 : decode cX5_faculty 27 = .ok (.goto 4, 3) := by decide +kernel
theorem dX5_faculty_30 : decode cX5_faculty 30 = .ok (.iconst 1, 1) := by decide +kernel
theorem dX5_faculty_31 : decode cX5_faculty 31 = .ok (.invokevirtual 114, 3) := by decide +kernel
theorem dX5_faculty_34 : decode cX5_faculty 34 = .ok (.ifCond .ne 20, 3) := by decide +kernel
theorem dX5_faculty_37 : decode cX5_faculty 37 = .ok (.aload_n 0, 1) := by decide +kernel
theorem dX5_faculty_38 : decode cX5_faculty 38 = .ok (.getfield 35, 3) := by decide +kernel
theorem dX5_faculty_41 : decode cX5_faculty 41 = .ok (.bipush 8, 2) := by decide +kernel
theorem dX5_faculty_43 : decode cX5_faculty 43 = .ok (.iload_n 1, 1) := by decide +kernel
theorem dX5_faculty_44 : decode cX5_faculty 44 = .ok (.imul, 1) := by decide +kernel
theorem dX5_faculty_45 : decode cX5_faculty 45 = .ok (.iload_n 2, 1) := by decide +kernel
theorem dX5_faculty_46 : decode cX5_faculty 46 = .ok (.iadd, 1) := by decide +kernel
theorem dX5_faculty_47 : decode cX5_faculty 47 = .ok (.aload_n 0, 1) := by decide +kernel
theorem dX5_faculty_48 : decode cX5_faculty 48 = .ok (.getfield 117, 3) := by decide +kernel
theorem dX5_faculty_51 : decode cX5_faculty 51 = .ok (.iload_n 3, 1) := by decide +kernel
theorem dX5_faculty_52 : decode cX5_faculty 52 = .ok (.iadd, 1) := by decide +kernel
theorem dX5_faculty_53 : decode cX5_faculty 53 = .ok (.iastore, 1) := by decide +kernel
theorem dX5_faculty_54 : decode cX5_faculty 54 = .ok (.return_, 1) := by decide +kernel
def tab_X5_faculty : List (Nat × Sem) := [(0, op_al 0 1), (1, op_il 1 2), (2, op_call sp_X5_isWitness 1 0 5), (5, op_if (fun x => x = 0) 30 8), (8, op_il 2 9), (9, op_call sp_X5_isPlace 1 0 12), (12, op_if (fun x => x = 0) 30 15), (15, op_il 3 16), (16, op_ic 0 17), (17, op_ic 10000 20), (20, op_call sp_X5_isIn 3 0 23), (23, op_if (fun x => x = 0) 30 26), (26, op_ic 0 27), (27, op_go 31), (30, op_ic 1 31), (31, op_callV 7 sp_X5_fails 2 0 34), (34, op_if (fun x => ¬ x = 0) 54 37), (37, op_al 0 38), (38, op_gf 7 10 41), (41, op_ic 8 43), (43, op_il 1 44), (44, op_bin (fun x y => x * y) 45), (45, op_il 2 46), (46, op_bin (fun x y => x + y) 47), (47, op_al 0 48), (48, op_gf 7 0 51), (51, op_il 3 52), (52, op_bin (fun x y => x + y) 53), (53, op_iast 54), (54, op_vret)]
set_option maxRecDepth 20000 in
theorem tok_X5_faculty : ∀ q ∈ tab_X5_faculty, Snd RX5 cX5_faculty 4 2 0 none q.1 q.2 := by
  unfold tab_X5_faculty
  refine tcons (ok_aload_n dX5_faculty_0 rfl rfl) ?_
  refine tcons (ok_iload_n dX5_faculty_1 rfl rfl) ?_
  refine tcons (ok_invokestatic M_X5_isWitness w_1171 w_1172 w_49 w_1173 ⟨by decide, by decide, by decide +kernel⟩ (by decide) (by decide) dX5_faculty_2 rfl) ?_
  refine tcons (ok_if_eq dX5_faculty_5 rfl rfl) ?_
  refine tcons (ok_iload_n dX5_faculty_8 rfl rfl) ?_
  refine tcons (ok_invokestatic M_X5_isPlace w_1109 w_1110 w_49 w_1111 ⟨by decide, by decide, by decide +kernel⟩ (by decide) (by decide) dX5_faculty_9 rfl) ?_
  refine tcons (ok_if_eq dX5_faculty_12 rfl rfl) ?_
  refine tcons (ok_iload_n dX5_faculty_15 rfl rfl) ?_
  refine tcons (ok_iconst dX5_faculty_16 rfl rfl) ?_
  refine tcons (ok_sipush dX5_faculty_17 rfl rfl) ?_
  refine tcons (ok_invokestatic M_X5_isIn w_1105 w_1106 w_49 w_1107 ⟨by decide, by decide, by decide +kernel⟩ (by decide) (by decide) dX5_faculty_20 rfl) ?_
  refine tcons (ok_if_eq dX5_faculty_23 rfl rfl) ?_
  refine tcons (ok_iconst dX5_faculty_26 rfl rfl) ?_
  refine tcons (ok_goto dX5_faculty_27 rfl) ?_
  refine tcons (ok_iconst dX5_faculty_30 rfl rfl) ?_
  refine tcons (ok_invokevirtual M_X5_fails (C := RX5) (T := TX5) (nf := 33) rfl w_1112 w_1114 w_20 w_49 w_1115 ⟨rfl, by decide, by decide, by decide +kernel⟩ (by decide) (by decide) dX5_faculty_31 rfl) ?_
  refine tcons (ok_if_ne dX5_faculty_34 rfl rfl) ?_
  refine tcons (ok_aload_n dX5_faculty_37 rfl rfl) ?_
  refine tcons (ok_getfield (C := RX5) (T := TX5) (n := 33) rfl in_X5 (by decide) w_1003 dX5_faculty_38 rfl) ?_
  refine tcons (ok_bipush dX5_faculty_41 rfl rfl) ?_
  refine tcons (ok_iload_n dX5_faculty_43 rfl rfl) ?_
  refine tcons (ok_imul dX5_faculty_44 rfl) ?_
  refine tcons (ok_iload_n dX5_faculty_45 rfl rfl) ?_
  refine tcons (ok_iadd dX5_faculty_46 rfl) ?_
  refine tcons (ok_aload_n dX5_faculty_47 rfl rfl) ?_
  refine tcons (ok_getfield (C := RX5) (T := TX5) (n := 33) rfl in_X5 (by decide) w_993 dX5_faculty_48 rfl) ?_
  refine tcons (ok_iload_n dX5_faculty_51 rfl rfl) ?_
  refine tcons (ok_iadd dX5_faculty_52 rfl) ?_
  refine tcons (ok_iastore dX5_faculty_53 rfl) ?_
  refine tcons (ok_vreturn rfl dX5_faculty_54) ?_
  exact fun _ h => nomatch h
def sp_X5_faculty : Spc := fun av s N _ => match av with
  | [.inl (.inr (20, 0)), .inl (.inl w), .inl (.inl p), .inl (.inl t)] => f1 (inR w 0 5 ∧ inR p 0 7 ∧ inR t 0 10000) none N s (N none (stS (th s 0) 30 0 (cl (8 * w + p)) (s.2.1 20 0 0 + t)))
  | _ => False
theorem fac_vp {w p : Int32} (h : inR w 0 5) (h2 : inR p 0 7) : vp_in (8 * w + p) 48 := by
  obtain ⟨j, hj, rfl⟩ := rg_nI (N := 5) h rfl
  obtain ⟨k, hk, rfl⟩ := rg_nI (N := 7) h2 rfl
  rw [show (8 : Int32) = nI 8 from rfl, nIm, nI_add]
  exact nI_vp (by omega) (by decide)
set_option maxRecDepth 20000 in
set_option maxHeartbeats 2000000 in
theorem M_X5_faculty : AMet yX5_faculty cX5_faculty 4 none 2 0 sp_X5_faculty := by
  refine AMet.mk (own := RX5) (by decide) rfl [0, 1, 2, 3] rfl tok_X5_faculty 200 ?_
  intro av s0 N X h
  unfold sp_X5_faculty at h
  split at h
  rotate_left
  · exact h.elim
  refine ⟨fun _ => none, ?_, fun pc P hP => nomatch hP⟩
  repeat' (first | apply And.intro | (intro q; exact absurd q (by decide)) | intro _)
  all_goals first | decide | (exact (rfl : (0 : Nat) = 0)) | (exact Nat.le_of_ble_eq_true rfl) | (exact Ib_of (fac_vp (by assumption) (by assumption))) | (simp_all [-Int32.not_lt, -Int32.not_le, f1, stS_get]; done) | (simp_all [-Int32.not_lt, -Int32.not_le, ← Int32.not_le, f1, stS_get]; done) | (simp_all [f1, stS_get]; done)
theorem dX5_ends_0 : decode cX5_ends 0 = .ok (.aload_n 0, 1) := by decide +kernel
theorem dX5_ends_1 : decode cX5_ends 1 = .ok (.getfield 59, 3) := by decide +kernel
theorem dX5_ends_4 : decode cX5_ends 4 = .ok (.iload_n 1, 1) := by decide +kernel
theorem dX5_ends_5 : decode cX5_ends 5 = .ok (.iload_n 2, 1) := by decide +kernel
theorem dX5_ends_6 : decode cX5_ends 6 = .ok (.iastore, 1) := by decide +kernel
theorem dX5_ends_7 : decode cX5_ends 7 = .ok (.aload_n 0, 1) := by decide +kernel
theorem dX5_ends_8 : decode cX5_ends 8 = .ok (.getfield 62, 3) := by decide +kernel
theorem dX5_ends_11 : decode cX5_ends 11 = .ok (.iload_n 1, 1) := by decide +kernel
theorem dX5_ends_12 : decode cX5_ends 12 = .ok (.aload_n 0, 1) := by decide +kernel
theorem dX5_ends_13 : decode cX5_ends 13 = .ok (.getfield 117, 3) := by decide +kernel
theorem dX5_ends_16 : decode cX5_ends 16 = .ok (.iastore, 1) := by decide +kernel
theorem dX5_ends_17 : decode cX5_ends 17 = .ok (.return_, 1) := by decide +kernel
def tab_X5_ends : List (Nat × Sem) := [(0, op_al 0 1), (1, op_gf 7 19 4), (4, op_il 1 5), (5, op_il 2 6), (6, op_iast 7), (7, op_al 0 8), (8, op_gf 7 20 11), (11, op_il 1 12), (12, op_al 0 13), (13, op_gf 7 0 16), (16, op_iast 17), (17, op_vret)]
set_option maxRecDepth 20000 in
theorem tok_X5_ends : ∀ q ∈ tab_X5_ends, Snd RX5 cX5_ends 3 0 0 none q.1 q.2 := by
  unfold tab_X5_ends
  refine tcons (ok_aload_n dX5_ends_0 rfl rfl) ?_
  refine tcons (ok_getfield (C := RX5) (T := TX5) (n := 33) rfl in_X5 (by decide) w_1012 dX5_ends_1 rfl) ?_
  refine tcons (ok_iload_n dX5_ends_4 rfl rfl) ?_
  refine tcons (ok_iload_n dX5_ends_5 rfl rfl) ?_
  refine tcons (ok_iastore dX5_ends_6 rfl) ?_
  refine tcons (ok_aload_n dX5_ends_7 rfl rfl) ?_
  refine tcons (ok_getfield (C := RX5) (T := TX5) (n := 33) rfl in_X5 (by decide) w_1013 dX5_ends_8 rfl) ?_
  refine tcons (ok_iload_n dX5_ends_11 rfl rfl) ?_
  refine tcons (ok_aload_n dX5_ends_12 rfl rfl) ?_
  refine tcons (ok_getfield (C := RX5) (T := TX5) (n := 33) rfl in_X5 (by decide) w_993 dX5_ends_13 rfl) ?_
  refine tcons (ok_iastore dX5_ends_16 rfl) ?_
  refine tcons (ok_vreturn rfl dX5_ends_17) ?_
  exact fun _ h => nomatch h
def sp_X5_ends : Spc := fun av s N _ => match av with
  | [.inl (.inr (20, 0)), .inl (.inl v), .inl (.inl k)] => Ib v 30 ∧ N none (stS (stS s 39 0 (cl v) k) 40 0 (cl v) (s.2.1 20 0 0))
  | _ => False
set_option maxRecDepth 20000 in
set_option maxHeartbeats 2000000 in
theorem M_X5_ends : AMet yX5_ends cX5_ends 3 none 0 0 sp_X5_ends := by
  refine AMet.mk (own := RX5) (by decide) rfl [0, 1, 2] rfl tok_X5_ends 200 ?_
  intro av s0 N X h
  unfold sp_X5_ends at h
  split at h
  rotate_left
  · exact h.elim
  refine ⟨fun _ => none, ?_, fun pc P hP => nomatch hP⟩
  repeat' (first | apply And.intro | (intro q; exact absurd q (by decide)) | intro _)
  all_goals first | decide | (exact (rfl : (0 : Nat) = 0)) | (exact Nat.le_of_ble_eq_true rfl) | (exact h.1) | (simp_all [-Int32.not_lt, -Int32.not_le, stS_get]; done) | (simp_all [-Int32.not_lt, -Int32.not_le, ← Int32.not_le, stS_get]; done) | (simp_all [stS_get]; done)
theorem dX5_isYoung_0 : decode cX5_isYoung 0 = .ok (.aload_n 0, 1) := by decide +kernel
theorem dX5_isYoung_1 : decode cX5_isYoung 1 = .ok (.getfield 117, 3) := by decide +kernel
theorem dX5_isYoung_4 : decode cX5_isYoung 4 = .ok (.aload_n 0, 1) := by decide +kernel
theorem dX5_isYoung_5 : decode cX5_isYoung 5 = .ok (.getfield 7, 3) := by decide +kernel
theorem dX5_isYoung_8 : decode cX5_isYoung 8 = .ok (.iload_n 1, 1) := by decide +kernel
theorem dX5_isYoung_9 : decode cX5_isYoung 9 = .ok (.iaload, 1) := by decide +kernel
theorem dX5_isYoung_10 : decode cX5_isYoung 10 = .ok (.isub, 1) := by decide +kernel
theorem dX5_isYoung_11 : decode cX5_isYoung 11 = .ok (.iload_n 3, 1) := by decide +kernel
theorem dX5_isYoung_12 : decode cX5_isYoung 12 = .ok (.if_icmp .lt 18, 3) := by decide +kernel
theorem dX5_isYoung_15 : decode cX5_isYoung 15 = .ok (.aload_n 0, 1) := by decide +kernel
theorem dX5_isYoung_16 : decode cX5_isYoung 16 = .ok (.getfield 117, 3) := by decide +kernel
theorem dX5_isYoung_19 : decode cX5_isYoung 19 = .ok (.aload_n 0, 1) := by decide +kernel
theorem dX5_isYoung_20 : decode cX5_isYoung 20 = .ok (.getfield 7, 3) := by decide +kernel
theorem dX5_isYoung_23 : decode cX5_isYoung 23 = .ok (.iload_n 2, 1) := by decide +kernel
theorem dX5_isYoung_24 : decode cX5_isYoung 24 = .ok (.iaload, 1) := by decide +kernel
theorem dX5_isYoung_25 : decode cX5_isYoung 25 = .ok (.isub, 1) := by decide +kernel
theorem dX5_isYoung_26 : decode cX5_isYoung 26 = .ok (.iload_n 3, 1) := by decide +kernel
theorem dX5_isYoung_27 : decode cX5_isYoung 27 = .ok (.if_icmp .ge 7, 3) := by decide +kernel
theorem dX5_isYoung_30 : decode cX5_isYoung 30 = .ok (.iconst 1, 1) := by decide +kernel
theorem dX5_isYoung_31 : decode cX5_isYoung 31 = .ok (.goto 4, 3) := by decide +kernel
theorem dX5_isYoung_34 : decode cX5_isYoung 34 = .ok (.iconst 0, 1) := by decide +kernel
theorem dX5_isYoung_35 : decode cX5_isYoung 35 = .ok (.ireturn, 1) := by decide +kernel
def tab_X5_isYoung : List (Nat × Sem) := [(0, op_al 0 1), (1, op_gf 7 0 4), (4, op_al 0 5), (5, op_gf 7 2 8), (8, op_il 1 9), (9, op_iald 10), (10, op_bin (fun x y => x - y) 11), (11, op_il 3 12), (12, op_cmp (fun x y => x < y) 30 15), (15, op_al 0 16), (16, op_gf 7 0 19), (19, op_al 0 20), (20, op_gf 7 2 23), (23, op_il 2 24), (24, op_iald 25), (25, op_bin (fun x y => x - y) 26), (26, op_il 3 27), (27, op_cmp (fun x y => y ≤ x) 34 30), (30, op_ic 1 31), (31, op_go 35), (34, op_ic 0 35), (35, op_zret)]
set_option maxRecDepth 20000 in
theorem tok_X5_isYoung : ∀ q ∈ tab_X5_isYoung, Snd RX5 cX5_isYoung 4 0 0 (some .boolean) q.1 q.2 := by
  unfold tab_X5_isYoung
  refine tcons (ok_aload_n dX5_isYoung_0 rfl rfl) ?_
  refine tcons (ok_getfield (C := RX5) (T := TX5) (n := 33) rfl in_X5 (by decide) w_993 dX5_isYoung_1 rfl) ?_
  refine tcons (ok_aload_n dX5_isYoung_4 rfl rfl) ?_
  refine tcons (ok_getfield (C := RX5) (T := TX5) (n := 33) rfl in_X5 (by decide) w_995 dX5_isYoung_5 rfl) ?_
  refine tcons (ok_iload_n dX5_isYoung_8 rfl rfl) ?_
  refine tcons (ok_iaload dX5_isYoung_9 rfl) ?_
  refine tcons (ok_isub dX5_isYoung_10 rfl) ?_
  refine tcons (ok_iload_n dX5_isYoung_11 rfl rfl) ?_
  refine tcons (ok_icmp_lt dX5_isYoung_12 rfl rfl) ?_
  refine tcons (ok_aload_n dX5_isYoung_15 rfl rfl) ?_
  refine tcons (ok_getfield (C := RX5) (T := TX5) (n := 33) rfl in_X5 (by decide) w_993 dX5_isYoung_16 rfl) ?_
  refine tcons (ok_aload_n dX5_isYoung_19 rfl rfl) ?_
  refine tcons (ok_getfield (C := RX5) (T := TX5) (n := 33) rfl in_X5 (by decide) w_995 dX5_isYoung_20 rfl) ?_
  refine tcons (ok_iload_n dX5_isYoung_23 rfl rfl) ?_
  refine tcons (ok_iaload dX5_isYoung_24 rfl) ?_
  refine tcons (ok_isub dX5_isYoung_25 rfl) ?_
  refine tcons (ok_iload_n dX5_isYoung_26 rfl rfl) ?_
  refine tcons (ok_icmp_ge dX5_isYoung_27 rfl rfl) ?_
  refine tcons (ok_iconst dX5_isYoung_30 rfl rfl) ?_
  refine tcons (ok_goto dX5_isYoung_31 rfl) ?_
  refine tcons (ok_iconst dX5_isYoung_34 rfl rfl) ?_
  refine tcons (ok_zreturn rfl (Or.inl rfl) dX5_isYoung_35) ?_
  exact fun _ h => nomatch h
def sp_X5_isYoung : Spc := fun av s N _ => match av with
  | [.inl (.inr (20, 0)), .inl (.inl p), .inl (.inl q), .inl (.inl a)] => (Ib p 24 ∧ Ib q 24) ∧ br (s.2.1 20 0 0 - s.2.1 22 0 (cl p) < a ∨ s.2.1 20 0 0 - s.2.1 22 0 (cl q) < a) N s
  | _ => False
set_option maxRecDepth 20000 in
set_option maxHeartbeats 2000000 in
theorem M_X5_isYoung : AMet yX5_isYoung cX5_isYoung 4 (some .boolean) 0 0 sp_X5_isYoung := by
  refine AMet.mk (own := RX5) (by decide) rfl [0, 1, 2, 3] rfl tok_X5_isYoung 200 ?_
  intro av s0 N X h
  unfold sp_X5_isYoung at h
  split at h
  rotate_left
  · exact h.elim
  refine ⟨fun _ => none, ?_, fun pc P hP => nomatch hP⟩
  repeat' (first | apply And.intro | (intro q; exact absurd q (by decide)) | intro _)
  all_goals first | decide | (exact (rfl : (0 : Nat) = 0)) | (exact Nat.le_of_ble_eq_true rfl) | (exact h.1.1) | (exact h.1.2) | (simp_all [-Int32.not_lt, -Int32.not_le, br]; done) | (simp_all [-Int32.not_lt, -Int32.not_le, ← Int32.not_le, br]; done) | (simp_all [br]; done)
theorem dX5_isOf_0 : decode cX5_isOf 0 = .ok (.aload_n 0, 1) := by decide +kernel
theorem dX5_isOf_1 : decode cX5_isOf 1 = .ok (.getfield 41, 3) := by decide +kernel
theorem dX5_isOf_4 : decode cX5_isOf 4 = .ok (.iload_n 1, 1) := by decide +kernel
theorem dX5_isOf_5 : decode cX5_isOf 5 = .ok (.iaload, 1) := by decide +kernel
theorem dX5_isOf_6 : decode cX5_isOf 6 = .ok (.iload_n 2, 1) := by decide +kernel
theorem dX5_isOf_7 : decode cX5_isOf 7 = .ok (.if_icmp .eq 13, 3) := by decide +kernel
theorem dX5_isOf_10 : decode cX5_isOf 10 = .ok (.aload_n 0, 1) := by decide +kernel
theorem dX5_isOf_11 : decode cX5_isOf 11 = .ok (.getfield 44, 3) := by decide +kernel
theorem dX5_isOf_14 : decode cX5_isOf 14 = .ok (.iload_n 1, 1) := by decide +kernel
theorem dX5_isOf_15 : decode cX5_isOf 15 = .ok (.iaload, 1) := by decide +kernel
theorem dX5_isOf_16 : decode cX5_isOf 16 = .ok (.iload_n 2, 1) := by decide +kernel
theorem dX5_isOf_17 : decode cX5_isOf 17 = .ok (.if_icmp .ne 7, 3) := by decide +kernel
theorem dX5_isOf_20 : decode cX5_isOf 20 = .ok (.iconst 1, 1) := by decide +kernel
theorem dX5_isOf_21 : decode cX5_isOf 21 = .ok (.goto 4, 3) := by decide +kernel
theorem dX5_isOf_24 : decode cX5_isOf 24 = .ok (.iconst 0, 1) := by decide +kernel
theorem dX5_isOf_25 : decode cX5_isOf 25 = .ok (.ireturn, 1) := by decide +kernel
def tab_X5_isOf : List (Nat × Sem) := [(0, op_al 0 1), (1, op_gf 7 13 4), (4, op_il 1 5), (5, op_iald 6), (6, op_il 2 7), (7, op_cmp (fun x y => x = y) 20 10), (10, op_al 0 11), (11, op_gf 7 14 14), (14, op_il 1 15), (15, op_iald 16), (16, op_il 2 17), (17, op_cmp (fun x y => ¬ x = y) 24 20), (20, op_ic 1 21), (21, op_go 25), (24, op_ic 0 25), (25, op_zret)]
set_option maxRecDepth 20000 in
theorem tok_X5_isOf : ∀ q ∈ tab_X5_isOf, Snd RX5 cX5_isOf 3 0 0 (some .boolean) q.1 q.2 := by
  unfold tab_X5_isOf
  refine tcons (ok_aload_n dX5_isOf_0 rfl rfl) ?_
  refine tcons (ok_getfield (C := RX5) (T := TX5) (n := 33) rfl in_X5 (by decide) w_1006 dX5_isOf_1 rfl) ?_
  refine tcons (ok_iload_n dX5_isOf_4 rfl rfl) ?_
  refine tcons (ok_iaload dX5_isOf_5 rfl) ?_
  refine tcons (ok_iload_n dX5_isOf_6 rfl rfl) ?_
  refine tcons (ok_icmp_eq dX5_isOf_7 rfl rfl) ?_
  refine tcons (ok_aload_n dX5_isOf_10 rfl rfl) ?_
  refine tcons (ok_getfield (C := RX5) (T := TX5) (n := 33) rfl in_X5 (by decide) w_1007 dX5_isOf_11 rfl) ?_
  refine tcons (ok_iload_n dX5_isOf_14 rfl rfl) ?_
  refine tcons (ok_iaload dX5_isOf_15 rfl) ?_
  refine tcons (ok_iload_n dX5_isOf_16 rfl rfl) ?_
  refine tcons (ok_icmp_ne dX5_isOf_17 rfl rfl) ?_
  refine tcons (ok_iconst dX5_isOf_20 rfl rfl) ?_
  refine tcons (ok_goto dX5_isOf_21 rfl) ?_
  refine tcons (ok_iconst dX5_isOf_24 rfl rfl) ?_
  refine tcons (ok_zreturn rfl (Or.inl rfl) dX5_isOf_25) ?_
  exact fun _ h => nomatch h
def sp_X5_isOf : Spc := fun av s N _ => match av with
  | [.inl (.inr (20, 0)), .inl (.inl v), .inl (.inl p)] => Ib v 30 ∧ br (s.2.1 33 0 (cl v) = p ∨ s.2.1 34 0 (cl v) = p) N s
  | _ => False
set_option maxRecDepth 20000 in
set_option maxHeartbeats 2000000 in
theorem M_X5_isOf : AMet yX5_isOf cX5_isOf 3 (some .boolean) 0 0 sp_X5_isOf := by
  refine AMet.mk (own := RX5) (by decide) rfl [0, 1, 2] rfl tok_X5_isOf 200 ?_
  intro av s0 N X h
  unfold sp_X5_isOf at h
  split at h
  rotate_left
  · exact h.elim
  refine ⟨fun _ => none, ?_, fun pc P hP => nomatch hP⟩
  repeat' (first | apply And.intro | (intro q; exact absurd q (by decide)) | intro _)
  all_goals first | decide | (exact (rfl : (0 : Nat) = 0)) | (exact Nat.le_of_ble_eq_true rfl) | (exact h.1) | (simp_all [-Int32.not_lt, -Int32.not_le, br]; done) | (simp_all [-Int32.not_lt, -Int32.not_le, ← Int32.not_le, br]; done) | (simp_all [br]; done)
theorem dX5_binds_0 : decode cX5_binds 0 = .ok (.aload_n 0, 1) := by decide +kernel
theorem dX5_binds_1 : decode cX5_binds 1 = .ok (.getfield 50, 3) := by decide +kernel
theorem dX5_binds_4 : decode cX5_binds 4 = .ok (.iload_n 1, 1) := by decide +kernel
theorem dX5_binds_5 : decode cX5_binds 5 = .ok (.iaload, 1) := by decide +kernel
theorem dX5_binds_6 : decode cX5_binds 6 = .ok (.iload_n 2, 1) := by decide +kernel
theorem dX5_binds_7 : decode cX5_binds 7 = .ok (.if_icmp .gt 36, 3) := by decide +kernel
theorem dX5_binds_10 : decode cX5_binds 10 = .ok (.aload_n 0, 1) := by decide +kernel
theorem dX5_binds_11 : decode cX5_binds 11 = .ok (.getfield 59, 3) := by decide +kernel
theorem dX5_binds_14 : decode cX5_binds 14 = .ok (.iload_n 1, 1) := by decide +kernel
theorem dX5_binds_15 : decode cX5_binds 15 = .ok (.iaload, 1) := by decide +kernel
theorem dX5_binds_16 : decode cX5_binds 16 = .ok (.iconst 1, 1) := by decide +kernel
theorem dX5_binds_17 : decode cX5_binds 17 = .ok (.if_icmp .eq 26, 3) := by decide +kernel
theorem dX5_binds_20 : decode cX5_binds 20 = .ok (.aload_n 0, 1) := by decide +kernel
theorem dX5_binds_21 : decode cX5_binds 21 = .ok (.getfield 59, 3) := by decide +kernel
theorem dX5_binds_24 : decode cX5_binds 24 = .ok (.iload_n 1, 1) := by decide +kernel
theorem dX5_binds_25 : decode cX5_binds 25 = .ok (.iaload, 1) := by decide +kernel
theorem dX5_binds_26 : decode cX5_binds 26 = .ok (.ifCond .eq 13, 3) := by decide +kernel
theorem dX5_binds_29 : decode cX5_binds 29 = .ok (.aload_n 0, 1) := by decide +kernel
theorem dX5_binds_30 : decode cX5_binds 30 = .ok (.getfield 62, 3) := by decide +kernel
theorem dX5_binds_33 : decode cX5_binds 33 = .ok (.iload_n 1, 1) := by decide +kernel
theorem dX5_binds_34 : decode cX5_binds 34 = .ok (.iaload, 1) := by decide +kernel
theorem dX5_binds_35 : decode cX5_binds 35 = .ok (.iload_n 2, 1) := by decide +kernel
theorem dX5_binds_36 : decode cX5_binds 36 = .ok (.if_icmp .le 7, 3) := by decide +kernel
theorem dX5_binds_39 : decode cX5_binds 39 = .ok (.iconst 1, 1) := by decide +kernel
theorem dX5_binds_40 : decode cX5_binds 40 = .ok (.goto 4, 3) := by decide +kernel
theorem dX5_binds_43 : decode cX5_binds 43 = .ok (.iconst 0, 1) := by decide +kernel
theorem dX5_binds_44 : decode cX5_binds 44 = .ok (.ireturn, 1) := by decide +kernel
def tab_X5_binds : List (Nat × Sem) := [(0, op_al 0 1), (1, op_gf 7 16 4), (4, op_il 1 5), (5, op_iald 6), (6, op_il 2 7), (7, op_cmp (fun x y => y < x) 43 10), (10, op_al 0 11), (11, op_gf 7 19 14), (14, op_il 1 15), (15, op_iald 16), (16, op_ic 1 17), (17, op_cmp (fun x y => x = y) 43 20), (20, op_al 0 21), (21, op_gf 7 19 24), (24, op_il 1 25), (25, op_iald 26), (26, op_if (fun x => x = 0) 39 29), (29, op_al 0 30), (30, op_gf 7 20 33), (33, op_il 1 34), (34, op_iald 35), (35, op_il 2 36), (36, op_cmp (fun x y => x ≤ y) 43 39), (39, op_ic 1 40), (40, op_go 44), (43, op_ic 0 44), (44, op_zret)]
set_option maxRecDepth 20000 in
theorem tok_X5_binds : ∀ q ∈ tab_X5_binds, Snd RX5 cX5_binds 3 0 0 (some .boolean) q.1 q.2 := by
  unfold tab_X5_binds
  refine tcons (ok_aload_n dX5_binds_0 rfl rfl) ?_
  refine tcons (ok_getfield (C := RX5) (T := TX5) (n := 33) rfl in_X5 (by decide) w_1009 dX5_binds_1 rfl) ?_
  refine tcons (ok_iload_n dX5_binds_4 rfl rfl) ?_
  refine tcons (ok_iaload dX5_binds_5 rfl) ?_
  refine tcons (ok_iload_n dX5_binds_6 rfl rfl) ?_
  refine tcons (ok_icmp_gt dX5_binds_7 rfl rfl) ?_
  refine tcons (ok_aload_n dX5_binds_10 rfl rfl) ?_
  refine tcons (ok_getfield (C := RX5) (T := TX5) (n := 33) rfl in_X5 (by decide) w_1012 dX5_binds_11 rfl) ?_
  refine tcons (ok_iload_n dX5_binds_14 rfl rfl) ?_
  refine tcons (ok_iaload dX5_binds_15 rfl) ?_
  refine tcons (ok_iconst dX5_binds_16 rfl rfl) ?_
  refine tcons (ok_icmp_eq dX5_binds_17 rfl rfl) ?_
  refine tcons (ok_aload_n dX5_binds_20 rfl rfl) ?_
  refine tcons (ok_getfield (C := RX5) (T := TX5) (n := 33) rfl in_X5 (by decide) w_1012 dX5_binds_21 rfl) ?_
  refine tcons (ok_iload_n dX5_binds_24 rfl rfl) ?_
  refine tcons (ok_iaload dX5_binds_25 rfl) ?_
  refine tcons (ok_if_eq dX5_binds_26 rfl rfl) ?_
  refine tcons (ok_aload_n dX5_binds_29 rfl rfl) ?_
  refine tcons (ok_getfield (C := RX5) (T := TX5) (n := 33) rfl in_X5 (by decide) w_1013 dX5_binds_30 rfl) ?_
  refine tcons (ok_iload_n dX5_binds_33 rfl rfl) ?_
  refine tcons (ok_iaload dX5_binds_34 rfl) ?_
  refine tcons (ok_iload_n dX5_binds_35 rfl rfl) ?_
  refine tcons (ok_icmp_le dX5_binds_36 rfl rfl) ?_
  refine tcons (ok_iconst dX5_binds_39 rfl rfl) ?_
  refine tcons (ok_goto dX5_binds_40 rfl) ?_
  refine tcons (ok_iconst dX5_binds_43 rfl rfl) ?_
  refine tcons (ok_zreturn rfl (Or.inl rfl) dX5_binds_44) ?_
  exact fun _ h => nomatch h
def sp_X5_binds : Spc := fun av s N _ => match av with
  | [.inl (.inr (20, 0)), .inl (.inl v), .inl (.inl t)] => Ib v 30 ∧ br (¬ t < s.2.1 36 0 (cl v) ∧ ¬ s.2.1 39 0 (cl v) = 1 ∧ (s.2.1 39 0 (cl v) = 0 ∨ t < s.2.1 40 0 (cl v))) N s
  | _ => False
set_option maxRecDepth 20000 in
set_option maxHeartbeats 2000000 in
theorem M_X5_binds : AMet yX5_binds cX5_binds 3 (some .boolean) 0 0 sp_X5_binds := by
  refine AMet.mk (own := RX5) (by decide) rfl [0, 1, 2] rfl tok_X5_binds 200 ?_
  intro av s0 N X h
  unfold sp_X5_binds at h
  split at h
  rotate_left
  · exact h.elim
  refine ⟨fun _ => none, ?_, fun pc P hP => nomatch hP⟩
  repeat' (first | apply And.intro | (intro q; exact absurd q (by decide)) | intro _)
  all_goals first | decide | (exact (rfl : (0 : Nat) = 0)) | (exact Nat.le_of_ble_eq_true rfl) | (exact h.1) | (simp_all [-Int32.not_lt, -Int32.not_le, br]; done) | (simp_all [-Int32.not_lt, -Int32.not_le, ← Int32.not_le, br]; done) | (simp_all [br]; done)
theorem dX5_isOver_0 : decode cX5_isOver 0 = .ok (.iload_n 0, 1) := by decide +kernel
theorem dX5_isOver_1 : decode cX5_isOver 1 = .ok (.iconst 2, 1) := by decide +kernel
theorem dX5_isOver_2 : decode cX5_isOver 2 = .ok (.if_icmp .eq 8, 3) := by decide +kernel
theorem dX5_isOver_5 : decode cX5_isOver 5 = .ok (.iload_n 0, 1) := by decide +kernel
theorem dX5_isOver_6 : decode cX5_isOver 6 = .ok (.iconst 3, 1) := by decide +kernel
theorem dX5_isOver_7 : decode cX5_isOver 7 = .ok (.if_icmp .ne 7, 3) := by decide +kernel
theorem dX5_isOver_10 : decode cX5_isOver 10 = .ok (.iconst 1, 1) := by decide +kernel
theorem dX5_isOver_11 : decode cX5_isOver 11 = .ok (.goto 4, 3) := by decide +kernel
theorem dX5_isOver_14 : decode cX5_isOver 14 = .ok (.iconst 0, 1) := by decide +kernel
theorem dX5_isOver_15 : decode cX5_isOver 15 = .ok (.ireturn, 1) := by decide +kernel
def tab_X5_isOver : List (Nat × Sem) := [(0, op_il 0 1), (1, op_ic 2 2), (2, op_cmp (fun x y => x = y) 10 5), (5, op_il 0 6), (6, op_ic 3 7), (7, op_cmp (fun x y => ¬ x = y) 14 10), (10, op_ic 1 11), (11, op_go 15), (14, op_ic 0 15), (15, op_zret)]
set_option maxRecDepth 20000 in
theorem tok_X5_isOver : ∀ q ∈ tab_X5_isOver, Snd RX5 cX5_isOver 1 0 0 (some .boolean) q.1 q.2 := by
  unfold tab_X5_isOver
  refine tcons (ok_iload_n dX5_isOver_0 rfl rfl) ?_
  refine tcons (ok_iconst dX5_isOver_1 rfl rfl) ?_
  refine tcons (ok_icmp_eq dX5_isOver_2 rfl rfl) ?_
  refine tcons (ok_iload_n dX5_isOver_5 rfl rfl) ?_
  refine tcons (ok_iconst dX5_isOver_6 rfl rfl) ?_
  refine tcons (ok_icmp_ne dX5_isOver_7 rfl rfl) ?_
  refine tcons (ok_iconst dX5_isOver_10 rfl rfl) ?_
  refine tcons (ok_goto dX5_isOver_11 rfl) ?_
  refine tcons (ok_iconst dX5_isOver_14 rfl rfl) ?_
  refine tcons (ok_zreturn rfl (Or.inl rfl) dX5_isOver_15) ?_
  exact fun _ h => nomatch h
def sp_X5_isOver : Spc := fun av s N _ => match av with
  | [.inl (.inl k)] => br (k = 2 ∨ k = 3) N s
  | _ => False
set_option maxRecDepth 20000 in
set_option maxHeartbeats 2000000 in
theorem M_X5_isOver : AMet yX5_isOver cX5_isOver 1 (some .boolean) 0 0 sp_X5_isOver := by
  refine AMet.mk (own := RX5) (by decide) rfl [0] rfl tok_X5_isOver 200 ?_
  intro av s0 N X h
  unfold sp_X5_isOver at h
  split at h
  rotate_left
  · exact h.elim
  refine ⟨fun _ => none, ?_, fun pc P hP => nomatch hP⟩
  repeat' (first | apply And.intro | (intro q; exact absurd q (by decide)) | intro _)
  all_goals first | decide | (exact (rfl : (0 : Nat) = 0)) | (exact Nat.le_of_ble_eq_true rfl) | (simp_all [-Int32.not_lt, -Int32.not_le, br]; done) | (simp_all [-Int32.not_lt, -Int32.not_le, ← Int32.not_le, br]; done) | (simp_all [br]; done)
theorem dX5_isTold_0 : decode cX5_isTold 0 = .ok (.aload_n 0, 1) := by decide +kernel
theorem dX5_isTold_1 : decode cX5_isTold 1 = .ok (.getfield 59, 3) := by decide +kernel
theorem dX5_isTold_4 : decode cX5_isTold 4 = .ok (.iload_n 1, 1) := by decide +kernel
theorem dX5_isTold_5 : decode cX5_isTold 5 = .ok (.iaload, 1) := by decide +kernel
theorem dX5_isTold_6 : decode cX5_isTold 6 = .ok (.ifCond .eq 13, 3) := by decide +kernel
theorem dX5_isTold_9 : decode cX5_isTold 9 = .ok (.aload_n 0, 1) := by decide +kernel
theorem dX5_isTold_10 : decode cX5_isTold 10 = .ok (.getfield 59, 3) := by decide +kernel
theorem dX5_isTold_13 : decode cX5_isTold 13 = .ok (.iload_n 1, 1) := by decide +kernel
theorem dX5_isTold_14 : decode cX5_isTold 14 = .ok (.iaload, 1) := by decide +kernel
theorem dX5_isTold_15 : decode cX5_isTold 15 = .ok (.iconst 3, 1) := by decide +kernel
theorem dX5_isTold_16 : decode cX5_isTold 16 = .ok (.if_icmp .ne 7, 3) := by decide +kernel
theorem dX5_isTold_19 : decode cX5_isTold 19 = .ok (.iconst 1, 1) := by decide +kernel
theorem dX5_isTold_20 : decode cX5_isTold 20 = .ok (.goto 4, 3) := by decide +kernel
theorem dX5_isTold_23 : decode cX5_isTold 23 = .ok (.iconst 0, 1) := by decide +kernel
theorem dX5_isTold_24 : decode cX5_isTold 24 = .ok (.ireturn, 1) := by decide +kernel
def tab_X5_isTold : List (Nat × Sem) := [(0, op_al 0 1), (1, op_gf 7 19 4), (4, op_il 1 5), (5, op_iald 6), (6, op_if (fun x => x = 0) 19 9), (9, op_al 0 10), (10, op_gf 7 19 13), (13, op_il 1 14), (14, op_iald 15), (15, op_ic 3 16), (16, op_cmp (fun x y => ¬ x = y) 23 19), (19, op_ic 1 20), (20, op_go 24), (23, op_ic 0 24), (24, op_zret)]
set_option maxRecDepth 20000 in
theorem tok_X5_isTold : ∀ q ∈ tab_X5_isTold, Snd RX5 cX5_isTold 2 0 0 (some .boolean) q.1 q.2 := by
  unfold tab_X5_isTold
  refine tcons (ok_aload_n dX5_isTold_0 rfl rfl) ?_
  refine tcons (ok_getfield (C := RX5) (T := TX5) (n := 33) rfl in_X5 (by decide) w_1012 dX5_isTold_1 rfl) ?_
  refine tcons (ok_iload_n dX5_isTold_4 rfl rfl) ?_
  refine tcons (ok_iaload dX5_isTold_5 rfl) ?_
  refine tcons (ok_if_eq dX5_isTold_6 rfl rfl) ?_
  refine tcons (ok_aload_n dX5_isTold_9 rfl rfl) ?_
  refine tcons (ok_getfield (C := RX5) (T := TX5) (n := 33) rfl in_X5 (by decide) w_1012 dX5_isTold_10 rfl) ?_
  refine tcons (ok_iload_n dX5_isTold_13 rfl rfl) ?_
  refine tcons (ok_iaload dX5_isTold_14 rfl) ?_
  refine tcons (ok_iconst dX5_isTold_15 rfl rfl) ?_
  refine tcons (ok_icmp_ne dX5_isTold_16 rfl rfl) ?_
  refine tcons (ok_iconst dX5_isTold_19 rfl rfl) ?_
  refine tcons (ok_goto dX5_isTold_20 rfl) ?_
  refine tcons (ok_iconst dX5_isTold_23 rfl rfl) ?_
  refine tcons (ok_zreturn rfl (Or.inl rfl) dX5_isTold_24) ?_
  exact fun _ h => nomatch h
def sp_X5_isTold : Spc := fun av s N _ => match av with
  | [.inl (.inr (20, 0)), .inl (.inl v)] => Ib v 30 ∧ br (s.2.1 39 0 (cl v) = 0 ∨ s.2.1 39 0 (cl v) = 3) N s
  | _ => False
set_option maxRecDepth 20000 in
set_option maxHeartbeats 2000000 in
theorem M_X5_isTold : AMet yX5_isTold cX5_isTold 2 (some .boolean) 0 0 sp_X5_isTold := by
  refine AMet.mk (own := RX5) (by decide) rfl [0, 1] rfl tok_X5_isTold 200 ?_
  intro av s0 N X h
  unfold sp_X5_isTold at h
  split at h
  rotate_left
  · exact h.elim
  refine ⟨fun _ => none, ?_, fun pc P hP => nomatch hP⟩
  repeat' (first | apply And.intro | (intro q; exact absurd q (by decide)) | intro _)
  all_goals first | decide | (exact (rfl : (0 : Nat) = 0)) | (exact Nat.le_of_ble_eq_true rfl) | (exact h.1) | (simp_all [-Int32.not_lt, -Int32.not_le, br]; done) | (simp_all [-Int32.not_lt, -Int32.not_le, ← Int32.not_le, br]; done) | (simp_all [br]; done)
theorem dX5_hasGround_0 : decode cX5_hasGround 0 = .ok (.iload_n 0, 1) := by decide +kernel
theorem dX5_hasGround_1 : decode cX5_hasGround 1 = .ok (.iload_n 1, 1) := by decide +kernel
theorem dX5_hasGround_2 : decode cX5_hasGround 2 = .ok (.ishr, 1) := by decide +kernel
theorem dX5_hasGround_3 : decode cX5_hasGround 3 = .ok (.iconst 1, 1) := by decide +kernel
theorem dX5_hasGround_4 : decode cX5_hasGround 4 = .ok (.iand, 1) := by decide +kernel
theorem dX5_hasGround_5 : decode cX5_hasGround 5 = .ok (.iconst 1, 1) := by decide +kernel
theorem dX5_hasGround_6 : decode cX5_hasGround 6 = .ok (.if_icmp .ne 7, 3) := by decide +kernel
theorem dX5_hasGround_9 : decode cX5_hasGround 9 = .ok (.iconst 1, 1) := by decide +kernel
theorem dX5_hasGround_10 : decode cX5_hasGround 10 = .ok (.goto 4, 3) := by decide +kernel
theorem dX5_hasGround_13 : decode cX5_hasGround 13 = .ok (.iconst 0, 1) := by decide +kernel
theorem dX5_hasGround_14 : decode cX5_hasGround 14 = .ok (.ireturn, 1) := by decide +kernel
def tab_X5_hasGround : List (Nat × Sem) := [(0, op_il 0 1), (1, op_il 1 2), (2, op_bin (fun x y => x >>> (y &&& 31)) 3), (3, op_ic 1 4), (4, op_bin (fun x y => x &&& y) 5), (5, op_ic 1 6), (6, op_cmp (fun x y => ¬ x = y) 13 9), (9, op_ic 1 10), (10, op_go 14), (13, op_ic 0 14), (14, op_zret)]
set_option maxRecDepth 20000 in
theorem tok_X5_hasGround : ∀ q ∈ tab_X5_hasGround, Snd RX5 cX5_hasGround 2 0 0 (some .boolean) q.1 q.2 := by
  unfold tab_X5_hasGround
  refine tcons (ok_iload_n dX5_hasGround_0 rfl rfl) ?_
  refine tcons (ok_iload_n dX5_hasGround_1 rfl rfl) ?_
  refine tcons (ok_ishr dX5_hasGround_2 rfl) ?_
  refine tcons (ok_iconst dX5_hasGround_3 rfl rfl) ?_
  refine tcons (ok_iand dX5_hasGround_4 rfl) ?_
  refine tcons (ok_iconst dX5_hasGround_5 rfl rfl) ?_
  refine tcons (ok_icmp_ne dX5_hasGround_6 rfl rfl) ?_
  refine tcons (ok_iconst dX5_hasGround_9 rfl rfl) ?_
  refine tcons (ok_goto dX5_hasGround_10 rfl) ?_
  refine tcons (ok_iconst dX5_hasGround_13 rfl rfl) ?_
  refine tcons (ok_zreturn rfl (Or.inl rfl) dX5_hasGround_14) ?_
  exact fun _ h => nomatch h
def sp_X5_hasGround : Spc := fun av s N _ => match av with
  | [.inl (.inl d), .inl (.inl k)] => br ((d >>> (k &&& 31)) &&& 1 = 1) N s
  | _ => False
set_option maxRecDepth 20000 in
set_option maxHeartbeats 2000000 in
theorem M_X5_hasGround : AMet yX5_hasGround cX5_hasGround 2 (some .boolean) 0 0 sp_X5_hasGround := by
  refine AMet.mk (own := RX5) (by decide) rfl [0, 1] rfl tok_X5_hasGround 200 ?_
  intro av s0 N X h
  unfold sp_X5_hasGround at h
  split at h
  rotate_left
  · exact h.elim
  refine ⟨fun _ => none, ?_, fun pc P hP => nomatch hP⟩
  repeat' (first | apply And.intro | (intro q; exact absurd q (by decide)) | intro _)
  all_goals first | decide | (exact (rfl : (0 : Nat) = 0)) | (exact Nat.le_of_ble_eq_true rfl) | (simp_all [-Int32.not_lt, -Int32.not_le, br]; done) | (simp_all [-Int32.not_lt, -Int32.not_le, ← Int32.not_le, br]; done) | (simp_all [br]; done)
def eff (d : Int32) : Int32 := d &&& 31 ||| (if 31 < d then 32 else 0)
theorem dX5_effects_0 : decode cX5_effects 0 = .ok (.iload_n 0, 1) := by decide +kernel
theorem dX5_effects_1 : decode cX5_effects 1 = .ok (.bipush 31, 2) := by decide +kernel
theorem dX5_effects_3 : decode cX5_effects 3 = .ok (.iand, 1) := by decide +kernel
theorem dX5_effects_4 : decode cX5_effects 4 = .ok (.iload_n 0, 1) := by decide +kernel
theorem dX5_effects_5 : decode cX5_effects 5 = .ok (.bipush 31, 2) := by decide +kernel
theorem dX5_effects_7 : decode cX5_effects 7 = .ok (.if_icmp .le 8, 3) := by decide +kernel
theorem dX5_effects_10 : decode cX5_effects 10 = .ok (.bipush 32, 2) := by decide +kernel
theorem dX5_effects_12 : decode cX5_effects 12 = .ok (.goto 4, 3) := by decide +kernel
theorem dX5_effects_15 : decode cX5_effects 15 = .ok (.iconst 0, 1) := by decide +kernel
theorem dX5_effects_16 : decode cX5_effects 16 = .ok (.ior, 1) := by decide +kernel
theorem dX5_effects_17 : decode cX5_effects 17 = .ok (.ireturn, 1) := by decide +kernel
def tab_X5_effects : List (Nat × Sem) := [(0, op_il 0 1), (1, op_ic 31 3), (3, op_bin (fun x y => x &&& y) 4), (4, op_il 0 5), (5, op_ic 31 7), (7, op_cmp (fun x y => x ≤ y) 15 10), (10, op_ic 32 12), (12, op_go 16), (15, op_ic 0 16), (16, op_bin (fun x y => x ||| y) 17), (17, op_iret)]
set_option maxRecDepth 20000 in
theorem tok_X5_effects : ∀ q ∈ tab_X5_effects, Snd RX5 cX5_effects 1 0 0 (some .int) q.1 q.2 := by
  unfold tab_X5_effects
  refine tcons (ok_iload_n dX5_effects_0 rfl rfl) ?_
  refine tcons (ok_bipush dX5_effects_1 rfl rfl) ?_
  refine tcons (ok_iand dX5_effects_3 rfl) ?_
  refine tcons (ok_iload_n dX5_effects_4 rfl rfl) ?_
  refine tcons (ok_bipush dX5_effects_5 rfl rfl) ?_
  refine tcons (ok_icmp_le dX5_effects_7 rfl rfl) ?_
  refine tcons (ok_bipush dX5_effects_10 rfl rfl) ?_
  refine tcons (ok_goto dX5_effects_12 rfl) ?_
  refine tcons (ok_iconst dX5_effects_15 rfl rfl) ?_
  refine tcons (ok_ior dX5_effects_16 rfl) ?_
  refine tcons (ok_ireturn rfl dX5_effects_17) ?_
  exact fun _ h => nomatch h
def sp_X5_effects : Spc := fun av s N _ => match av with
  | [.inl (.inl d)] => N (some (aI (eff d))) s
  | _ => False
set_option maxRecDepth 20000 in
set_option maxHeartbeats 2000000 in
theorem M_X5_effects : AMet yX5_effects cX5_effects 1 (some .int) 0 0 sp_X5_effects := by
  refine AMet.mk (own := RX5) (by decide) rfl [0] rfl tok_X5_effects 200 ?_
  intro av s0 N X h
  unfold sp_X5_effects at h
  split at h
  rotate_left
  · exact h.elim
  refine ⟨fun _ => none, ?_, fun pc P hP => nomatch hP⟩
  repeat' (first | apply And.intro | (intro q; exact absurd q (by decide)) | intro _)
  all_goals first | decide | (exact (rfl : (0 : Nat) = 0)) | (exact Nat.le_of_ble_eq_true rfl) | (simp_all [-Int32.not_lt, -Int32.not_le, eff]; done) | (simp_all [-Int32.not_lt, -Int32.not_le, ← Int32.not_le, eff]; done) | (simp_all [eff]; done)
theorem dX5_areLike_0 : decode cX5_areLike 0 = .ok (.iload_n 0, 1) := by decide +kernel
theorem dX5_areLike_1 : decode cX5_areLike 1 = .ok (.ifCond .ne 7, 3) := by decide +kernel
theorem dX5_areLike_4 : decode cX5_areLike 4 = .ok (.iload_n 1, 1) := by decide +kernel
theorem dX5_areLike_5 : decode cX5_areLike 5 = .ok (.ifCond .eq 15, 3) := by decide +kernel
theorem dX5_areLike_8 : decode cX5_areLike 8 = .ok (.iload_n 0, 1) := by decide +kernel
theorem dX5_areLike_9 : decode cX5_areLike 9 = .ok (.invokestatic 188, 3) := by decide +kernel
theorem dX5_areLike_12 : decode cX5_areLike 12 = .ok (.iload_n 1, 1) := by decide +kernel
theorem dX5_areLike_13 : decode cX5_areLike 13 = .ok (.invokestatic 188, 3) := by decide +kernel
theorem dX5_areLike_16 : decode cX5_areLike 16 = .ok (.iand, 1) := by decide +kernel
theorem dX5_areLike_17 : decode cX5_areLike 17 = .ok (.ifCond .eq 7, 3) := by decide +kernel
theorem dX5_areLike_20 : decode cX5_areLike 20 = .ok (.iconst 1, 1) := by decide +kernel
theorem dX5_areLike_21 : decode cX5_areLike 21 = .ok (.goto 4, 3) := by decide +kernel
theorem dX5_areLike_24 : decode cX5_areLike 24 = .ok (.iconst 0, 1) := by decide +kernel
theorem dX5_areLike_25 : decode cX5_areLike 25 = .ok (.ireturn, 1) := by decide +kernel
def tab_X5_areLike : List (Nat × Sem) := [(0, op_il 0 1), (1, op_if (fun x => ¬ x = 0) 8 4), (4, op_il 1 5), (5, op_if (fun x => x = 0) 20 8), (8, op_il 0 9), (9, op_call sp_X5_effects 1 0 12), (12, op_il 1 13), (13, op_call sp_X5_effects 1 0 16), (16, op_bin (fun x y => x &&& y) 17), (17, op_if (fun x => x = 0) 24 20), (20, op_ic 1 21), (21, op_go 25), (24, op_ic 0 25), (25, op_zret)]
set_option maxRecDepth 20000 in
theorem tok_X5_areLike : ∀ q ∈ tab_X5_areLike, Snd RX5 cX5_areLike 2 1 0 (some .boolean) q.1 q.2 := by
  unfold tab_X5_areLike
  refine tcons (ok_iload_n dX5_areLike_0 rfl rfl) ?_
  refine tcons (ok_if_ne dX5_areLike_1 rfl rfl) ?_
  refine tcons (ok_iload_n dX5_areLike_4 rfl rfl) ?_
  refine tcons (ok_if_eq dX5_areLike_5 rfl rfl) ?_
  refine tcons (ok_iload_n dX5_areLike_8 rfl rfl) ?_
  refine tcons (ok_invokestatic M_X5_effects w_1274 w_1275 w_49 w_1276 ⟨by decide, by decide, by decide +kernel⟩ (by decide) (by decide) dX5_areLike_9 rfl) ?_
  refine tcons (ok_iload_n dX5_areLike_12 rfl rfl) ?_
  refine tcons (ok_invokestatic M_X5_effects w_1274 w_1275 w_49 w_1276 ⟨by decide, by decide, by decide +kernel⟩ (by decide) (by decide) dX5_areLike_13 rfl) ?_
  refine tcons (ok_iand dX5_areLike_16 rfl) ?_
  refine tcons (ok_if_eq dX5_areLike_17 rfl rfl) ?_
  refine tcons (ok_iconst dX5_areLike_20 rfl rfl) ?_
  refine tcons (ok_goto dX5_areLike_21 rfl) ?_
  refine tcons (ok_iconst dX5_areLike_24 rfl rfl) ?_
  refine tcons (ok_zreturn rfl (Or.inl rfl) dX5_areLike_25) ?_
  exact fun _ h => nomatch h
def sp_X5_areLike : Spc := fun av s N _ => match av with
  | [.inl (.inl a), .inl (.inl b)] => br ((a = 0 ∧ b = 0) ∨ ¬ eff a &&& eff b = 0) N s
  | _ => False
set_option maxRecDepth 20000 in
set_option maxHeartbeats 2000000 in
theorem M_X5_areLike : AMet yX5_areLike cX5_areLike 2 (some .boolean) 1 0 sp_X5_areLike := by
  refine AMet.mk (own := RX5) (by decide) rfl [0, 1] rfl tok_X5_areLike 200 ?_
  intro av s0 N X h
  unfold sp_X5_areLike at h
  split at h
  rotate_left
  · exact h.elim
  refine ⟨fun _ => none, ?_, fun pc P hP => nomatch hP⟩
  repeat' (first | apply And.intro | (intro q; exact absurd q (by decide)) | intro _)
  all_goals first | decide | (exact (rfl : (0 : Nat) = 0)) | (exact Nat.le_of_ble_eq_true rfl) | (simp_all [-Int32.not_lt, -Int32.not_le, br]; done) | (simp_all [-Int32.not_lt, -Int32.not_le, ← Int32.not_le, br]; done) | (simp_all [br]; done)
def plc (p q k : Int32) : Int32 := 3 * (if p < q then 24 * p + q else 24 * q + p) + (if k = 1 then 0 else if k = 2 then 1 else 2)
theorem dX5_placeOf_0 : decode cX5_placeOf 0 = .ok (.iload_n 2, 1) := by decide +kernel
theorem dX5_placeOf_1 : decode cX5_placeOf 1 = .ok (.iconst 1, 1) := by decide +kernel
theorem dX5_placeOf_2 : decode cX5_placeOf 2 = .ok (.if_icmp .ne 7, 3) := by decide +kernel
theorem dX5_placeOf_5 : decode cX5_placeOf 5 = .ok (.iconst 0, 1) := by decide +kernel
theorem dX5_placeOf_6 : decode cX5_placeOf 6 = .ok (.goto 13, 3) := by decide +kernel
theorem dX5_placeOf_9 : decode cX5_placeOf 9 = .ok (.iload_n 2, 1) := by decide +kernel
theorem dX5_placeOf_10 : decode cX5_placeOf 10 = .ok (.iconst 2, 1) := by decide +kernel
theorem dX5_placeOf_11 : decode cX5_placeOf 11 = .ok (.if_icmp .ne 7, 3) := by decide +kernel
theorem dX5_placeOf_14 : decode cX5_placeOf 14 = .ok (.iconst 1, 1) := by decide +kernel
theorem dX5_placeOf_15 : decode cX5_placeOf 15 = .ok (.goto 4, 3) := by decide +kernel
theorem dX5_placeOf_18 : decode cX5_placeOf 18 = .ok (.iconst 2, 1) := by decide +kernel
theorem dX5_placeOf_19 : decode cX5_placeOf 19 = .ok (.istore_n 3, 1) := by decide +kernel
theorem dX5_placeOf_20 : decode cX5_placeOf 20 = .ok (.iconst 3, 1) := by decide +kernel
theorem dX5_placeOf_21 : decode cX5_placeOf 21 = .ok (.iload_n 0, 1) := by decide +kernel
theorem dX5_placeOf_22 : decode cX5_placeOf 22 = .ok (.iload_n 1, 1) := by decide +kernel
theorem dX5_placeOf_23 : decode cX5_placeOf 23 = .ok (.if_icmp .ge 12, 3) := by decide +kernel
theorem dX5_placeOf_26 : decode cX5_placeOf 26 = .ok (.bipush 24, 2) := by decide +kernel
theorem dX5_placeOf_28 : decode cX5_placeOf 28 = .ok (.iload_n 0, 1) := by decide +kernel
theorem dX5_placeOf_29 : decode cX5_placeOf 29 = .ok (.imul, 1) := by decide +kernel
theorem dX5_placeOf_30 : decode cX5_placeOf 30 = .ok (.iload_n 1, 1) := by decide +kernel
theorem dX5_placeOf_31 : decode cX5_placeOf 31 = .ok (.iadd, 1) := by decide +kernel
theorem dX5_placeOf_32 : decode cX5_placeOf 32 = .ok (.goto 9, 3) := by decide +kernel
theorem dX5_placeOf_35 : decode cX5_placeOf 35 = .ok (.bipush 24, 2) := by decide +kernel
theorem dX5_placeOf_37 : decode cX5_placeOf 37 = .ok (.iload_n 1, 1) := by decide +kernel
theorem dX5_placeOf_38 : decode cX5_placeOf 38 = .ok (.imul, 1) := by decide +kernel
theorem dX5_placeOf_39 : decode cX5_placeOf 39 = .ok (.iload_n 0, 1) := by decide +kernel
theorem dX5_placeOf_40 : decode cX5_placeOf 40 = .ok (.iadd, 1) := by decide +kernel
theorem dX5_placeOf_41 : decode cX5_placeOf 41 = .ok (.imul, 1) := by decide +kernel
theorem dX5_placeOf_42 : decode cX5_placeOf 42 = .ok (.iload_n 3, 1) := by decide +kernel
theorem dX5_placeOf_43 : decode cX5_placeOf 43 = .ok (.iadd, 1) := by decide +kernel
theorem dX5_placeOf_44 : decode cX5_placeOf 44 = .ok (.ireturn, 1) := by decide +kernel
def tab_X5_placeOf : List (Nat × Sem) := [(0, op_il 2 1), (1, op_ic 1 2), (2, op_cmp (fun x y => ¬ x = y) 9 5), (5, op_ic 0 6), (6, op_go 19), (9, op_il 2 10), (10, op_ic 2 11), (11, op_cmp (fun x y => ¬ x = y) 18 14), (14, op_ic 1 15), (15, op_go 19), (18, op_ic 2 19), (19, op_is 3 20), (20, op_ic 3 21), (21, op_il 0 22), (22, op_il 1 23), (23, op_cmp (fun x y => y ≤ x) 35 26), (26, op_ic 24 28), (28, op_il 0 29), (29, op_bin (fun x y => x * y) 30), (30, op_il 1 31), (31, op_bin (fun x y => x + y) 32), (32, op_go 41), (35, op_ic 24 37), (37, op_il 1 38), (38, op_bin (fun x y => x * y) 39), (39, op_il 0 40), (40, op_bin (fun x y => x + y) 41), (41, op_bin (fun x y => x * y) 42), (42, op_il 3 43), (43, op_bin (fun x y => x + y) 44), (44, op_iret)]
set_option maxRecDepth 20000 in
theorem tok_X5_placeOf : ∀ q ∈ tab_X5_placeOf, Snd RX5 cX5_placeOf 4 0 0 (some .int) q.1 q.2 := by
  unfold tab_X5_placeOf
  refine tcons (ok_iload_n dX5_placeOf_0 rfl rfl) ?_
  refine tcons (ok_iconst dX5_placeOf_1 rfl rfl) ?_
  refine tcons (ok_icmp_ne dX5_placeOf_2 rfl rfl) ?_
  refine tcons (ok_iconst dX5_placeOf_5 rfl rfl) ?_
  refine tcons (ok_goto dX5_placeOf_6 rfl) ?_
  refine tcons (ok_iload_n dX5_placeOf_9 rfl rfl) ?_
  refine tcons (ok_iconst dX5_placeOf_10 rfl rfl) ?_
  refine tcons (ok_icmp_ne dX5_placeOf_11 rfl rfl) ?_
  refine tcons (ok_iconst dX5_placeOf_14 rfl rfl) ?_
  refine tcons (ok_goto dX5_placeOf_15 rfl) ?_
  refine tcons (ok_iconst dX5_placeOf_18 rfl rfl) ?_
  refine tcons (ok_istore_n dX5_placeOf_19 rfl (by decide) rfl) ?_
  refine tcons (ok_iconst dX5_placeOf_20 rfl rfl) ?_
  refine tcons (ok_iload_n dX5_placeOf_21 rfl rfl) ?_
  refine tcons (ok_iload_n dX5_placeOf_22 rfl rfl) ?_
  refine tcons (ok_icmp_ge dX5_placeOf_23 rfl rfl) ?_
  refine tcons (ok_bipush dX5_placeOf_26 rfl rfl) ?_
  refine tcons (ok_iload_n dX5_placeOf_28 rfl rfl) ?_
  refine tcons (ok_imul dX5_placeOf_29 rfl) ?_
  refine tcons (ok_iload_n dX5_placeOf_30 rfl rfl) ?_
  refine tcons (ok_iadd dX5_placeOf_31 rfl) ?_
  refine tcons (ok_goto dX5_placeOf_32 rfl) ?_
  refine tcons (ok_bipush dX5_placeOf_35 rfl rfl) ?_
  refine tcons (ok_iload_n dX5_placeOf_37 rfl rfl) ?_
  refine tcons (ok_imul dX5_placeOf_38 rfl) ?_
  refine tcons (ok_iload_n dX5_placeOf_39 rfl rfl) ?_
  refine tcons (ok_iadd dX5_placeOf_40 rfl) ?_
  refine tcons (ok_imul dX5_placeOf_41 rfl) ?_
  refine tcons (ok_iload_n dX5_placeOf_42 rfl rfl) ?_
  refine tcons (ok_iadd dX5_placeOf_43 rfl) ?_
  refine tcons (ok_ireturn rfl dX5_placeOf_44) ?_
  exact fun _ h => nomatch h
def sp_X5_placeOf : Spc := fun av s N _ => match av with
  | [.inl (.inl p), .inl (.inl q), .inl (.inl k)] => N (some (aI (plc p q k))) s
  | _ => False
set_option maxRecDepth 20000 in
set_option maxHeartbeats 2000000 in
theorem M_X5_placeOf : AMet yX5_placeOf cX5_placeOf 4 (some .int) 0 0 sp_X5_placeOf := by
  refine AMet.mk (own := RX5) (by decide) rfl [0, 1, 2, 3] rfl tok_X5_placeOf 200 ?_
  intro av s0 N X h
  unfold sp_X5_placeOf at h
  split at h
  rotate_left
  · exact h.elim
  refine ⟨fun _ => none, ?_, fun pc P hP => nomatch hP⟩
  repeat' (first | apply And.intro | (intro q; exact absurd q (by decide)) | intro _)
  all_goals first | decide | (exact (rfl : (0 : Nat) = 0)) | (exact Nat.le_of_ble_eq_true rfl) | (simp_all [-Int32.not_lt, -Int32.not_le, plc]; done) | (simp_all [-Int32.not_lt, -Int32.not_le, ← Int32.not_le, plc]; done) | (simp_all [plc]; done)
theorem dX5_doubt_0 : decode cX5_doubt 0 = .ok (.aload_n 0, 1) := by decide +kernel
theorem dX5_doubt_1 : decode cX5_doubt 1 = .ok (.aload_n 0, 1) := by decide +kernel
theorem dX5_doubt_2 : decode cX5_doubt 2 = .ok (.iload_n 1, 1) := by decide +kernel
theorem dX5_doubt_3 : decode cX5_doubt 3 = .ok (.invokevirtual 179, 3) := by decide +kernel
theorem dX5_doubt_6 : decode cX5_doubt 6 = .ok (.ifCond .ne 7, 3) := by decide +kernel
theorem dX5_doubt_9 : decode cX5_doubt 9 = .ok (.iconst 1, 1) := by decide +kernel
theorem dX5_doubt_10 : decode cX5_doubt 10 = .ok (.goto 38, 3) := by decide +kernel
theorem dX5_doubt_13 : decode cX5_doubt 13 = .ok (.iload_n 2, 1) := by decide +kernel
theorem dX5_doubt_14 : decode cX5_doubt 14 = .ok (.invokestatic 173, 3) := by decide +kernel
theorem dX5_doubt_17 : decode cX5_doubt 17 = .ok (.ifCond .ne 7, 3) := by decide +kernel
theorem dX5_doubt_20 : decode cX5_doubt 20 = .ok (.iconst 2, 1) := by decide +kernel
theorem dX5_doubt_21 : decode cX5_doubt 21 = .ok (.goto 27, 3) := by decide +kernel
theorem dX5_doubt_24 : decode cX5_doubt 24 = .ok (.aload_n 0, 1) := by decide +kernel
theorem dX5_doubt_25 : decode cX5_doubt 25 = .ok (.getfield 71, 3) := by decide +kernel
theorem dX5_doubt_28 : decode cX5_doubt 28 = .ok (.iload_n 1, 1) := by decide +kernel
theorem dX5_doubt_29 : decode cX5_doubt 29 = .ok (.iaload, 1) := by decide +kernel
theorem dX5_doubt_30 : decode cX5_doubt 30 = .ok (.ifCond .ne 17, 3) := by decide +kernel
theorem dX5_doubt_33 : decode cX5_doubt 33 = .ok (.aload_n 0, 1) := by decide +kernel
theorem dX5_doubt_34 : decode cX5_doubt 34 = .ok (.getfield 74, 3) := by decide +kernel
theorem dX5_doubt_37 : decode cX5_doubt 37 = .ok (.iload_n 1, 1) := by decide +kernel
theorem dX5_doubt_38 : decode cX5_doubt 38 = .ok (.iaload, 1) := by decide +kernel
theorem dX5_doubt_39 : decode cX5_doubt 39 = .ok (.iconst 1, 1) := by decide +kernel
theorem dX5_doubt_40 : decode cX5_doubt 40 = .ok (.if_icmp .ne 7, 3) := by decide +kernel
theorem dX5_doubt_43 : decode cX5_doubt 43 = .ok (.iconst 0, 1) := by decide +kernel
theorem dX5_doubt_44 : decode cX5_doubt 44 = .ok (.goto 4, 3) := by decide +kernel
theorem dX5_doubt_47 : decode cX5_doubt 47 = .ok (.iconst 3, 1) := by decide +kernel
theorem dX5_doubt_48 : decode cX5_doubt 48 = .ok (.invokevirtual 114, 3) := by decide +kernel
theorem dX5_doubt_51 : decode cX5_doubt 51 = .ok (.ifCond .eq 5, 3) := by decide +kernel
theorem dX5_doubt_54 : decode cX5_doubt 54 = .ok (.iconst 0, 1) := by decide +kernel
theorem dX5_doubt_55 : decode cX5_doubt 55 = .ok (.ireturn, 1) := by decide +kernel
theorem dX5_doubt_56 : decode cX5_doubt 56 = .ok (.aload_n 0, 1) := by decide +kernel
theorem dX5_doubt_57 : decode cX5_doubt 57 = .ok (.getfield 68, 3) := by decide +kernel
theorem dX5_doubt_60 : decode cX5_doubt 60 = .ok (.iload_n 1, 1) := by decide +kernel
theorem dX5_doubt_61 : decode cX5_doubt 61 = .ok (.iaload, 1) := by decide +kernel
theorem dX5_doubt_62 : decode cX5_doubt 62 = .ok (.istore_n 3, 1) := by decide +kernel
theorem dX5_doubt_63 : decode cX5_doubt 63 = .ok (.aload_n 0, 1) := by decide +kernel
theorem dX5_doubt_64 : decode cX5_doubt 64 = .ok (.getfield 68, 3) := by decide +kernel
theorem dX5_doubt_67 : decode cX5_doubt 67 = .ok (.iload_n 1, 1) := by decide +kernel
theorem dX5_doubt_68 : decode cX5_doubt 68 = .ok (.iload_n 2, 1) := by decide +kernel
theorem dX5_doubt_69 : decode cX5_doubt 69 = .ok (.iastore, 1) := by decide +kernel
theorem dX5_doubt_70 : decode cX5_doubt 70 = .ok (.iload_n 3, 1) := by decide +kernel
theorem dX5_doubt_71 : decode cX5_doubt 71 = .ok (.ireturn, 1) := by decide +kernel
def tab_X5_doubt : List (Nat × Sem) := [(0, op_al 0 1), (1, op_al 0 2), (2, op_il 1 3), (3, op_callV 7 sp_X5_isCause 2 0 6), (6, op_if (fun x => ¬ x = 0) 13 9), (9, op_ic 1 10), (10, op_go 48), (13, op_il 2 14), (14, op_call sp_X5_isDoubt 1 0 17), (17, op_if (fun x => ¬ x = 0) 24 20), (20, op_ic 2 21), (21, op_go 48), (24, op_al 0 25), (25, op_gf 7 24 28), (28, op_il 1 29), (29, op_iald 30), (30, op_if (fun x => ¬ x = 0) 47 33), (33, op_al 0 34), (34, op_gf 7 25 37), (37, op_il 1 38), (38, op_iald 39), (39, op_ic 1 40), (40, op_cmp (fun x y => ¬ x = y) 47 43), (43, op_ic 0 44), (44, op_go 48), (47, op_ic 3 48), (48, op_callV 7 sp_X5_fails 2 0 51), (51, op_if (fun x => x = 0) 56 54), (54, op_ic 0 55), (55, op_iret), (56, op_al 0 57), (57, op_gf 7 23 60), (60, op_il 1 61), (61, op_iald 62), (62, op_is 3 63), (63, op_al 0 64), (64, op_gf 7 23 67), (67, op_il 1 68), (68, op_il 2 69), (69, op_iast 70), (70, op_il 3 71), (71, op_iret)]
set_option maxRecDepth 20000 in
theorem tok_X5_doubt : ∀ q ∈ tab_X5_doubt, Snd RX5 cX5_doubt 4 2 0 (some .int) q.1 q.2 := by
  unfold tab_X5_doubt
  refine tcons (ok_aload_n dX5_doubt_0 rfl rfl) ?_
  refine tcons (ok_aload_n dX5_doubt_1 rfl rfl) ?_
  refine tcons (ok_iload_n dX5_doubt_2 rfl rfl) ?_
  refine tcons (ok_invokevirtual M_X5_isCause (C := RX5) (T := TX5) (nf := 33) rfl w_1236 w_1238 w_34 w_49 w_1239 ⟨rfl, by decide, by decide, by decide +kernel⟩ (by decide) (by decide) dX5_doubt_3 rfl) ?_
  refine tcons (ok_if_ne dX5_doubt_6 rfl rfl) ?_
  refine tcons (ok_iconst dX5_doubt_9 rfl rfl) ?_
  refine tcons (ok_goto dX5_doubt_10 rfl) ?_
  refine tcons (ok_iload_n dX5_doubt_13 rfl rfl) ?_
  refine tcons (ok_invokestatic M_X5_isDoubt w_1225 w_1226 w_49 w_1227 ⟨by decide, by decide, by decide +kernel⟩ (by decide) (by decide) dX5_doubt_14 rfl) ?_
  refine tcons (ok_if_ne dX5_doubt_17 rfl rfl) ?_
  refine tcons (ok_iconst dX5_doubt_20 rfl rfl) ?_
  refine tcons (ok_goto dX5_doubt_21 rfl) ?_
  refine tcons (ok_aload_n dX5_doubt_24 rfl rfl) ?_
  refine tcons (ok_getfield (C := RX5) (T := TX5) (n := 33) rfl in_X5 (by decide) w_1017 dX5_doubt_25 rfl) ?_
  refine tcons (ok_iload_n dX5_doubt_28 rfl rfl) ?_
  refine tcons (ok_iaload dX5_doubt_29 rfl) ?_
  refine tcons (ok_if_ne dX5_doubt_30 rfl rfl) ?_
  refine tcons (ok_aload_n dX5_doubt_33 rfl rfl) ?_
  refine tcons (ok_getfield (C := RX5) (T := TX5) (n := 33) rfl in_X5 (by decide) w_1018 dX5_doubt_34 rfl) ?_
  refine tcons (ok_iload_n dX5_doubt_37 rfl rfl) ?_
  refine tcons (ok_iaload dX5_doubt_38 rfl) ?_
  refine tcons (ok_iconst dX5_doubt_39 rfl rfl) ?_
  refine tcons (ok_icmp_ne dX5_doubt_40 rfl rfl) ?_
  refine tcons (ok_iconst dX5_doubt_43 rfl rfl) ?_
  refine tcons (ok_goto dX5_doubt_44 rfl) ?_
  refine tcons (ok_iconst dX5_doubt_47 rfl rfl) ?_
  refine tcons (ok_invokevirtual M_X5_fails (C := RX5) (T := TX5) (nf := 33) rfl w_1112 w_1114 w_20 w_49 w_1115 ⟨rfl, by decide, by decide, by decide +kernel⟩ (by decide) (by decide) dX5_doubt_48 rfl) ?_
  refine tcons (ok_if_eq dX5_doubt_51 rfl rfl) ?_
  refine tcons (ok_iconst dX5_doubt_54 rfl rfl) ?_
  refine tcons (ok_ireturn rfl dX5_doubt_55) ?_
  refine tcons (ok_aload_n dX5_doubt_56 rfl rfl) ?_
  refine tcons (ok_getfield (C := RX5) (T := TX5) (n := 33) rfl in_X5 (by decide) w_1016 dX5_doubt_57 rfl) ?_
  refine tcons (ok_iload_n dX5_doubt_60 rfl rfl) ?_
  refine tcons (ok_iaload dX5_doubt_61 rfl) ?_
  refine tcons (ok_istore_n dX5_doubt_62 rfl (by decide) rfl) ?_
  refine tcons (ok_aload_n dX5_doubt_63 rfl rfl) ?_
  refine tcons (ok_getfield (C := RX5) (T := TX5) (n := 33) rfl in_X5 (by decide) w_1016 dX5_doubt_64 rfl) ?_
  refine tcons (ok_iload_n dX5_doubt_67 rfl rfl) ?_
  refine tcons (ok_iload_n dX5_doubt_68 rfl rfl) ?_
  refine tcons (ok_iastore dX5_doubt_69 rfl) ?_
  refine tcons (ok_iload_n dX5_doubt_70 rfl rfl) ?_
  refine tcons (ok_ireturn rfl dX5_doubt_71) ?_
  exact fun _ h => nomatch h
def sp_X5_doubt : Spc := fun av s N _ => match av with
  | [.inl (.inr (20, 0)), .inl (.inl c), .inl (.inl d)] => MI s ∧ f3 (isC s c) (inR d 1 127) (s.2.1 44 0 (cl c) = 0 ∧ s.2.1 45 0 (cl c) = 1) (some (aI 0)) N s (N (some (aI (s.2.1 43 0 (cl c)))) (stS (th s 0) 43 0 (cl c) d))
  | _ => False
set_option maxRecDepth 20000 in
set_option maxHeartbeats 2000000 in
theorem M_X5_doubt : AMet yX5_doubt cX5_doubt 4 (some .int) 2 0 sp_X5_doubt := by
  refine AMet.mk (own := RX5) (by decide) rfl [0, 1, 2, 3] rfl tok_X5_doubt 200 ?_
  intro av s0 N X h
  unfold sp_X5_doubt at h
  split at h
  rotate_left
  · exact h.elim
  refine ⟨fun _ => none, ?_, fun pc P hP => nomatch hP⟩
  repeat' (first | apply And.intro | (intro q; exact absurd q (by decide)) | intro _)
  all_goals first | decide | (exact (rfl : (0 : Nat) = 0)) | (exact Nat.le_of_ble_eq_true rfl) | (exact Ib_of (MI_c h.1 (by assumption))) | (simp_all [-Int32.not_lt, -Int32.not_le, f3, stS_get]; done) | (simp_all [-Int32.not_lt, -Int32.not_le, ← Int32.not_le, f3, stS_get]; done) | (simp_all [f3, stS_get]; done)
def hasP (s : Sg) (v p : Int32) : Prop := s.2.1 35 0 (cl v) = p ∨ (s.2.1 27 0 (cl (s.2.1 33 0 (cl v))) = 0 ∧ s.2.1 23 0 (cl (s.2.1 33 0 (cl v))) = p) ∨ (s.2.1 27 0 (cl (s.2.1 34 0 (cl v))) = 0 ∧ s.2.1 23 0 (cl (s.2.1 34 0 (cl v))) = p)
/-- a vow, and the persons of it, lie in their rows -/
def vwI (s : Sg) (v : Int32) : Prop := Ib v 30 ∧ Ib (s.2.1 33 0 (cl v)) 24 ∧ Ib (s.2.1 34 0 (cl v)) 24
theorem dX5_has_0 : decode cX5_has 0 = .ok (.aload_n 0, 1) := by decide +kernel
theorem dX5_has_1 : decode cX5_has 1 = .ok (.getfield 47, 3) := by decide +kernel
theorem dX5_has_4 : decode cX5_has 4 = .ok (.iload_n 1, 1) := by decide +kernel
theorem dX5_has_5 : decode cX5_has 5 = .ok (.iaload, 1) := by decide +kernel
theorem dX5_has_6 : decode cX5_has 6 = .ok (.iload_n 2, 1) := by decide +kernel
theorem dX5_has_7 : decode cX5_has 7 = .ok (.if_icmp .eq 61, 3) := by decide +kernel
theorem dX5_has_10 : decode cX5_has 10 = .ok (.aload_n 0, 1) := by decide +kernel
theorem dX5_has_11 : decode cX5_has 11 = .ok (.getfield 26, 3) := by decide +kernel
theorem dX5_has_14 : decode cX5_has 14 = .ok (.aload_n 0, 1) := by decide +kernel
theorem dX5_has_15 : decode cX5_has 15 = .ok (.getfield 41, 3) := by decide +kernel
theorem dX5_has_18 : decode cX5_has 18 = .ok (.iload_n 1, 1) := by decide +kernel
theorem dX5_has_19 : decode cX5_has 19 = .ok (.iaload, 1) := by decide +kernel
theorem dX5_has_20 : decode cX5_has 20 = .ok (.baload, 1) := by decide +kernel
theorem dX5_has_21 : decode cX5_has 21 = .ok (.ifCond .ne 18, 3) := by decide +kernel
theorem dX5_has_24 : decode cX5_has 24 = .ok (.aload_n 0, 1) := by decide +kernel
theorem dX5_has_25 : decode cX5_has 25 = .ok (.getfield 13, 3) := by decide +kernel
theorem dX5_has_28 : decode cX5_has 28 = .ok (.aload_n 0, 1) := by decide +kernel
theorem dX5_has_29 : decode cX5_has 29 = .ok (.getfield 41, 3) := by decide +kernel
theorem dX5_has_32 : decode cX5_has 32 = .ok (.iload_n 1, 1) := by decide +kernel
theorem dX5_has_33 : decode cX5_has 33 = .ok (.iaload, 1) := by decide +kernel
theorem dX5_has_34 : decode cX5_has 34 = .ok (.iaload, 1) := by decide +kernel
theorem dX5_has_35 : decode cX5_has 35 = .ok (.iload_n 2, 1) := by decide +kernel
theorem dX5_has_36 : decode cX5_has 36 = .ok (.if_icmp .eq 32, 3) := by decide +kernel
theorem dX5_has_39 : decode cX5_has 39 = .ok (.aload_n 0, 1) := by decide +kernel
theorem dX5_has_40 : decode cX5_has 40 = .ok (.getfield 26, 3) := by decide +kernel
theorem dX5_has_43 : decode cX5_has 43 = .ok (.aload_n 0, 1) := by decide +kernel
theorem dX5_has_44 : decode cX5_has 44 = .ok (.getfield 44, 3) := by decide +kernel
theorem dX5_has_47 : decode cX5_has 47 = .ok (.iload_n 1, 1) := by decide +kernel
theorem dX5_has_48 : decode cX5_has 48 = .ok (.iaload, 1) := by decide +kernel
theorem dX5_has_49 : decode cX5_has 49 = .ok (.baload, 1) := by decide +kernel
theorem dX5_has_50 : decode cX5_has 50 = .ok (.ifCond .ne 22, 3) := by decide +kernel
theorem dX5_has_53 : decode cX5_has 53 = .ok (.aload_n 0, 1) := by decide +kernel
theorem dX5_has_54 : decode cX5_has 54 = .ok (.getfield 13, 3) := by decide +kernel
theorem dX5_has_57 : decode cX5_has 57 = .ok (.aload_n 0, 1) := by decide +kernel
theorem dX5_has_58 : decode cX5_has 58 = .ok (.getfield 44, 3) := by decide +kernel
theorem dX5_has_61 : decode cX5_has 61 = .ok (.iload_n 1, 1) := by decide +kernel
theorem dX5_has_62 : decode cX5_has 62 = .ok (.iaload, 1) := by decide +kernel
theorem dX5_has_63 : decode cX5_has 63 = .ok (.iaload, 1) := by decide +kernel
theorem dX5_has_64 : decode cX5_has 64 = .ok (.iload_n 2, 1) := by decide +kernel
theorem dX5_has_65 : decode cX5_has 65 = .ok (.if_icmp .ne 7, 3) := by decide +kernel
theorem dX5_has_68 : decode cX5_has 68 = .ok (.iconst 1, 1) := by decide +kernel
theorem dX5_has_69 : decode cX5_has 69 = .ok (.goto 4, 3) := by decide +kernel
theorem dX5_has_72 : decode cX5_has 72 = .ok (.iconst 0, 1) := by decide +kernel
theorem dX5_has_73 : decode cX5_has 73 = .ok (.ireturn, 1) := by decide +kernel
def tab_X5_has : List (Nat × Sem) := [(0, op_al 0 1), (1, op_gf 7 15 4), (4, op_il 1 5), (5, op_iald 6), (6, op_il 2 7), (7, op_cmp (fun x y => x = y) 68 10), (10, op_al 0 11), (11, op_gf 7 7 14), (14, op_al 0 15), (15, op_gf 7 13 18), (18, op_il 1 19), (19, op_iald 20), (20, op_bald 21), (21, op_if (fun x => ¬ x = 0) 39 24), (24, op_al 0 25), (25, op_gf 7 3 28), (28, op_al 0 29), (29, op_gf 7 13 32), (32, op_il 1 33), (33, op_iald 34), (34, op_iald 35), (35, op_il 2 36), (36, op_cmp (fun x y => x = y) 68 39), (39, op_al 0 40), (40, op_gf 7 7 43), (43, op_al 0 44), (44, op_gf 7 14 47), (47, op_il 1 48), (48, op_iald 49), (49, op_bald 50), (50, op_if (fun x => ¬ x = 0) 72 53), (53, op_al 0 54), (54, op_gf 7 3 57), (57, op_al 0 58), (58, op_gf 7 14 61), (61, op_il 1 62), (62, op_iald 63), (63, op_iald 64), (64, op_il 2 65), (65, op_cmp (fun x y => ¬ x = y) 72 68), (68, op_ic 1 69), (69, op_go 73), (72, op_ic 0 73), (73, op_zret)]
set_option maxRecDepth 20000 in
theorem tok_X5_has : ∀ q ∈ tab_X5_has, Snd RX5 cX5_has 3 0 0 (some .boolean) q.1 q.2 := by
  unfold tab_X5_has
  refine tcons (ok_aload_n dX5_has_0 rfl rfl) ?_
  refine tcons (ok_getfield (C := RX5) (T := TX5) (n := 33) rfl in_X5 (by decide) w_1008 dX5_has_1 rfl) ?_
  refine tcons (ok_iload_n dX5_has_4 rfl rfl) ?_
  refine tcons (ok_iaload dX5_has_5 rfl) ?_
  refine tcons (ok_iload_n dX5_has_6 rfl rfl) ?_
  refine tcons (ok_icmp_eq dX5_has_7 rfl rfl) ?_
  refine tcons (ok_aload_n dX5_has_10 rfl rfl) ?_
  refine tcons (ok_getfield (C := RX5) (T := TX5) (n := 33) rfl in_X5 (by decide) w_1000 dX5_has_11 rfl) ?_
  refine tcons (ok_aload_n dX5_has_14 rfl rfl) ?_
  refine tcons (ok_getfield (C := RX5) (T := TX5) (n := 33) rfl in_X5 (by decide) w_1006 dX5_has_15 rfl) ?_
  refine tcons (ok_iload_n dX5_has_18 rfl rfl) ?_
  refine tcons (ok_iaload dX5_has_19 rfl) ?_
  refine tcons (ok_baload dX5_has_20 rfl) ?_
  refine tcons (ok_if_ne dX5_has_21 rfl rfl) ?_
  refine tcons (ok_aload_n dX5_has_24 rfl rfl) ?_
  refine tcons (ok_getfield (C := RX5) (T := TX5) (n := 33) rfl in_X5 (by decide) w_996 dX5_has_25 rfl) ?_
  refine tcons (ok_aload_n dX5_has_28 rfl rfl) ?_
  refine tcons (ok_getfield (C := RX5) (T := TX5) (n := 33) rfl in_X5 (by decide) w_1006 dX5_has_29 rfl) ?_
  refine tcons (ok_iload_n dX5_has_32 rfl rfl) ?_
  refine tcons (ok_iaload dX5_has_33 rfl) ?_
  refine tcons (ok_iaload dX5_has_34 rfl) ?_
  refine tcons (ok_iload_n dX5_has_35 rfl rfl) ?_
  refine tcons (ok_icmp_eq dX5_has_36 rfl rfl) ?_
  refine tcons (ok_aload_n dX5_has_39 rfl rfl) ?_
  refine tcons (ok_getfield (C := RX5) (T := TX5) (n := 33) rfl in_X5 (by decide) w_1000 dX5_has_40 rfl) ?_
  refine tcons (ok_aload_n dX5_has_43 rfl rfl) ?_
  refine tcons (ok_getfield (C := RX5) (T := TX5) (n := 33) rfl in_X5 (by decide) w_1007 dX5_has_44 rfl) ?_
  refine tcons (ok_iload_n dX5_has_47 rfl rfl) ?_
  refine tcons (ok_iaload dX5_has_48 rfl) ?_
  refine tcons (ok_baload dX5_has_49 rfl) ?_
  refine tcons (ok_if_ne dX5_has_50 rfl rfl) ?_
  refine tcons (ok_aload_n dX5_has_53 rfl rfl) ?_
  refine tcons (ok_getfield (C := RX5) (T := TX5) (n := 33) rfl in_X5 (by decide) w_996 dX5_has_54 rfl) ?_
  refine tcons (ok_aload_n dX5_has_57 rfl rfl) ?_
  refine tcons (ok_getfield (C := RX5) (T := TX5) (n := 33) rfl in_X5 (by decide) w_1007 dX5_has_58 rfl) ?_
  refine tcons (ok_iload_n dX5_has_61 rfl rfl) ?_
  refine tcons (ok_iaload dX5_has_62 rfl) ?_
  refine tcons (ok_iaload dX5_has_63 rfl) ?_
  refine tcons (ok_iload_n dX5_has_64 rfl rfl) ?_
  refine tcons (ok_icmp_ne dX5_has_65 rfl rfl) ?_
  refine tcons (ok_iconst dX5_has_68 rfl rfl) ?_
  refine tcons (ok_goto dX5_has_69 rfl) ?_
  refine tcons (ok_iconst dX5_has_72 rfl rfl) ?_
  refine tcons (ok_zreturn rfl (Or.inl rfl) dX5_has_73) ?_
  exact fun _ h => nomatch h
def sp_X5_has : Spc := fun av s N _ => match av with
  | [.inl (.inr (20, 0)), .inl (.inl v), .inl (.inl p)] => vwI s v ∧ br (hasP s v p) N s
  | _ => False
set_option maxRecDepth 20000 in
set_option maxHeartbeats 2000000 in
theorem M_X5_has : AMet yX5_has cX5_has 3 (some .boolean) 0 0 sp_X5_has := by
  refine AMet.mk (own := RX5) (by decide) rfl [0, 1, 2] rfl tok_X5_has 200 ?_
  intro av s0 N X h
  unfold sp_X5_has at h
  split at h
  rotate_left
  · exact h.elim
  refine ⟨fun _ => none, ?_, fun pc P hP => nomatch hP⟩
  repeat' (first | apply And.intro | (intro q; exact absurd q (by decide)) | intro _)
  all_goals first | decide | (exact (rfl : (0 : Nat) = 0)) | (exact Nat.le_of_ble_eq_true rfl) | (exact h.1.1) | (exact h.1.2.1) | (exact h.1.2.2) | (simp_all [-Int32.not_lt, -Int32.not_le, br, hasP]; done) | (simp_all [-Int32.not_lt, -Int32.not_le, ← Int32.not_le, br, hasP]; done) | (simp_all [br, hasP]; done)
theorem dX5_vowOf_0 : decode cX5_vowOf 0 = .ok (.aload_n 0, 1) := by decide +kernel
theorem dX5_vowOf_1 : decode cX5_vowOf 1 = .ok (.aload_n 0, 1) := by decide +kernel
theorem dX5_vowOf_2 : decode cX5_vowOf 2 = .ok (.iload_n 1, 1) := by decide +kernel
theorem dX5_vowOf_3 : decode cX5_vowOf 3 = .ok (.invokevirtual 154, 3) := by decide +kernel
theorem dX5_vowOf_6 : decode cX5_vowOf 6 = .ok (.ifCond .ne 7, 3) := by decide +kernel
theorem dX5_vowOf_9 : decode cX5_vowOf 9 = .ok (.iconst 1, 1) := by decide +kernel
theorem dX5_vowOf_10 : decode cX5_vowOf 10 = .ok (.goto 17, 3) := by decide +kernel
theorem dX5_vowOf_13 : decode cX5_vowOf 13 = .ok (.iload_n 2, 1) := by decide +kernel
theorem dX5_vowOf_14 : decode cX5_vowOf 14 = .ok (.iconst 0, 1) := by decide +kernel
theorem dX5_vowOf_15 : decode cX5_vowOf 15 = .ok (.iconst 4, 1) := by decide +kernel
theorem dX5_vowOf_16 : decode cX5_vowOf 16 = .ok (.invokestatic 99, 3) := by decide +kernel
theorem dX5_vowOf_19 : decode cX5_vowOf 19 = .ok (.ifCond .eq 7, 3) := by decide +kernel
theorem dX5_vowOf_22 : decode cX5_vowOf 22 = .ok (.iconst 0, 1) := by decide +kernel
theorem dX5_vowOf_23 : decode cX5_vowOf 23 = .ok (.goto 4, 3) := by decide +kernel
theorem dX5_vowOf_26 : decode cX5_vowOf 26 = .ok (.iconst 2, 1) := by decide +kernel
theorem dX5_vowOf_27 : decode cX5_vowOf 27 = .ok (.invokevirtual 114, 3) := by decide +kernel
theorem dX5_vowOf_30 : decode cX5_vowOf 30 = .ok (.ifCond .eq 5, 3) := by decide +kernel
theorem dX5_vowOf_33 : decode cX5_vowOf 33 = .ok (.iconst 0, 1) := by decide +kernel
theorem dX5_vowOf_34 : decode cX5_vowOf 34 = .ok (.ireturn, 1) := by decide +kernel
theorem dX5_vowOf_35 : decode cX5_vowOf 35 = .ok (.iload_n 2, 1) := by decide +kernel
theorem dX5_vowOf_36 : decode cX5_vowOf 36 = .ok (.tableswitch 68 0 3 #[32, 39, 46, 53], 32) := by decide +kernel
theorem dX5_vowOf_68 : decode cX5_vowOf 68 = .ok (.aload_n 0, 1) := by decide +kernel
theorem dX5_vowOf_69 : decode cX5_vowOf 69 = .ok (.getfield 59, 3) := by decide +kernel
theorem dX5_vowOf_72 : decode cX5_vowOf 72 = .ok (.iload_n 1, 1) := by decide +kernel
theorem dX5_vowOf_73 : decode cX5_vowOf 73 = .ok (.iaload, 1) := by decide +kernel
theorem dX5_vowOf_74 : decode cX5_vowOf 74 = .ok (.ireturn, 1) := by decide +kernel
theorem dX5_vowOf_75 : decode cX5_vowOf 75 = .ok (.aload_n 0, 1) := by decide +kernel
theorem dX5_vowOf_76 : decode cX5_vowOf 76 = .ok (.getfield 50, 3) := by decide +kernel
theorem dX5_vowOf_79 : decode cX5_vowOf 79 = .ok (.iload_n 1, 1) := by decide +kernel
theorem dX5_vowOf_80 : decode cX5_vowOf 80 = .ok (.iaload, 1) := by decide +kernel
theorem dX5_vowOf_81 : decode cX5_vowOf 81 = .ok (.ireturn, 1) := by decide +kernel
theorem dX5_vowOf_82 : decode cX5_vowOf 82 = .ok (.aload_n 0, 1) := by decide +kernel
theorem dX5_vowOf_83 : decode cX5_vowOf 83 = .ok (.getfield 62, 3) := by decide +kernel
theorem dX5_vowOf_86 : decode cX5_vowOf 86 = .ok (.iload_n 1, 1) := by decide +kernel
theorem dX5_vowOf_87 : decode cX5_vowOf 87 = .ok (.iaload, 1) := by decide +kernel
theorem dX5_vowOf_88 : decode cX5_vowOf 88 = .ok (.ireturn, 1) := by decide +kernel
theorem dX5_vowOf_89 : decode cX5_vowOf 89 = .ok (.aload_n 0, 1) := by decide +kernel
theorem dX5_vowOf_90 : decode cX5_vowOf 90 = .ok (.getfield 53, 3) := by decide +kernel
theorem dX5_vowOf_93 : decode cX5_vowOf 93 = .ok (.iload_n 1, 1) := by decide +kernel
theorem dX5_vowOf_94 : decode cX5_vowOf 94 = .ok (.baload, 1) := by decide +kernel
theorem dX5_vowOf_95 : decode cX5_vowOf 95 = .ok (.ifCond .eq 7, 3) := by decide +kernel
theorem dX5_vowOf_98 : decode cX5_vowOf 98 = .ok (.iconst 1, 1) := by decide +kernel
theorem dX5_vowOf_99 : decode cX5_vowOf 99 = .ok (.goto 4, 3) := by decide +kernel
theorem dX5_vowOf_102 : decode cX5_vowOf 102 = .ok (.iconst 0, 1) := by decide +kernel
theorem dX5_vowOf_103 : decode cX5_vowOf 103 = .ok (.ireturn, 1) := by decide +kernel
theorem dX5_vowOf_104 : decode cX5_vowOf 104 = .ok (.aload_n 0, 1) := by decide +kernel
theorem dX5_vowOf_105 : decode cX5_vowOf 105 = .ok (.getfield 47, 3) := by decide +kernel
theorem dX5_vowOf_108 : decode cX5_vowOf 108 = .ok (.iload_n 1, 1) := by decide +kernel
theorem dX5_vowOf_109 : decode cX5_vowOf 109 = .ok (.iaload, 1) := by decide +kernel
theorem dX5_vowOf_110 : decode cX5_vowOf 110 = .ok (.ireturn, 1) := by decide +kernel
def tab_X5_vowOf : List (Nat × Sem) := [(0, op_al 0 1), (1, op_al 0 2), (2, op_il 1 3), (3, op_callV 7 sp_X5_isVow 2 0 6), (6, op_if (fun x => ¬ x = 0) 13 9), (9, op_ic 1 10), (10, op_go 27), (13, op_il 2 14), (14, op_ic 0 15), (15, op_ic 4 16), (16, op_call sp_X5_isIn 3 0 19), (19, op_if (fun x => x = 0) 26 22), (22, op_ic 0 23), (23, op_go 27), (26, op_ic 2 27), (27, op_callV 7 sp_X5_fails 2 0 30), (30, op_if (fun x => x = 0) 35 33), (33, op_ic 0 34), (34, op_iret), (35, op_il 2 36), (36, op_sw [(0, 68), (1, 75), (2, 82), (3, 89)] 104), (68, op_al 0 69), (69, op_gf 7 19 72), (72, op_il 1 73), (73, op_iald 74), (74, op_iret), (75, op_al 0 76), (76, op_gf 7 16 79), (79, op_il 1 80), (80, op_iald 81), (81, op_iret), (82, op_al 0 83), (83, op_gf 7 20 86), (86, op_il 1 87), (87, op_iald 88), (88, op_iret), (89, op_al 0 90), (90, op_gf 7 17 93), (93, op_il 1 94), (94, op_bald 95), (95, op_if (fun x => x = 0) 102 98), (98, op_ic 1 99), (99, op_go 103), (102, op_ic 0 103), (103, op_iret), (104, op_al 0 105), (105, op_gf 7 15 108), (108, op_il 1 109), (109, op_iald 110), (110, op_iret)]
set_option maxRecDepth 20000 in
theorem tok_X5_vowOf : ∀ q ∈ tab_X5_vowOf, Snd RX5 cX5_vowOf 3 2 0 (some .int) q.1 q.2 := by
  unfold tab_X5_vowOf
  refine tcons (ok_aload_n dX5_vowOf_0 rfl rfl) ?_
  refine tcons (ok_aload_n dX5_vowOf_1 rfl rfl) ?_
  refine tcons (ok_iload_n dX5_vowOf_2 rfl rfl) ?_
  refine tcons (ok_invokevirtual M_X5_isVow (C := RX5) (T := TX5) (nf := 33) rfl w_1186 w_1188 w_27 w_49 w_1189 ⟨rfl, by decide, by decide, by decide +kernel⟩ (by decide) (by decide) dX5_vowOf_3 rfl) ?_
  refine tcons (ok_if_ne dX5_vowOf_6 rfl rfl) ?_
  refine tcons (ok_iconst dX5_vowOf_9 rfl rfl) ?_
  refine tcons (ok_goto dX5_vowOf_10 rfl) ?_
  refine tcons (ok_iload_n dX5_vowOf_13 rfl rfl) ?_
  refine tcons (ok_iconst dX5_vowOf_14 rfl rfl) ?_
  refine tcons (ok_iconst dX5_vowOf_15 rfl rfl) ?_
  refine tcons (ok_invokestatic M_X5_isIn w_1105 w_1106 w_49 w_1107 ⟨by decide, by decide, by decide +kernel⟩ (by decide) (by decide) dX5_vowOf_16 rfl) ?_
  refine tcons (ok_if_eq dX5_vowOf_19 rfl rfl) ?_
  refine tcons (ok_iconst dX5_vowOf_22 rfl rfl) ?_
  refine tcons (ok_goto dX5_vowOf_23 rfl) ?_
  refine tcons (ok_iconst dX5_vowOf_26 rfl rfl) ?_
  refine tcons (ok_invokevirtual M_X5_fails (C := RX5) (T := TX5) (nf := 33) rfl w_1112 w_1114 w_20 w_49 w_1115 ⟨rfl, by decide, by decide, by decide +kernel⟩ (by decide) (by decide) dX5_vowOf_27 rfl) ?_
  refine tcons (ok_if_eq dX5_vowOf_30 rfl rfl) ?_
  refine tcons (ok_iconst dX5_vowOf_33 rfl rfl) ?_
  refine tcons (ok_ireturn rfl dX5_vowOf_34) ?_
  refine tcons (ok_iload_n dX5_vowOf_35 rfl rfl) ?_
  refine tcons (ok_table rfl rfl rfl rfl dX5_vowOf_36) ?_
  refine tcons (ok_aload_n dX5_vowOf_68 rfl rfl) ?_
  refine tcons (ok_getfield (C := RX5) (T := TX5) (n := 33) rfl in_X5 (by decide) w_1012 dX5_vowOf_69 rfl) ?_
  refine tcons (ok_iload_n dX5_vowOf_72 rfl rfl) ?_
  refine tcons (ok_iaload dX5_vowOf_73 rfl) ?_
  refine tcons (ok_ireturn rfl dX5_vowOf_74) ?_
  refine tcons (ok_aload_n dX5_vowOf_75 rfl rfl) ?_
  refine tcons (ok_getfield (C := RX5) (T := TX5) (n := 33) rfl in_X5 (by decide) w_1009 dX5_vowOf_76 rfl) ?_
  refine tcons (ok_iload_n dX5_vowOf_79 rfl rfl) ?_
  refine tcons (ok_iaload dX5_vowOf_80 rfl) ?_
  refine tcons (ok_ireturn rfl dX5_vowOf_81) ?_
  refine tcons (ok_aload_n dX5_vowOf_82 rfl rfl) ?_
  refine tcons (ok_getfield (C := RX5) (T := TX5) (n := 33) rfl in_X5 (by decide) w_1013 dX5_vowOf_83 rfl) ?_
  refine tcons (ok_iload_n dX5_vowOf_86 rfl rfl) ?_
  refine tcons (ok_iaload dX5_vowOf_87 rfl) ?_
  refine tcons (ok_ireturn rfl dX5_vowOf_88) ?_
  refine tcons (ok_aload_n dX5_vowOf_89 rfl rfl) ?_
  refine tcons (ok_getfield (C := RX5) (T := TX5) (n := 33) rfl in_X5 (by decide) w_1010 dX5_vowOf_90 rfl) ?_
  refine tcons (ok_iload_n dX5_vowOf_93 rfl rfl) ?_
  refine tcons (ok_baload dX5_vowOf_94 rfl) ?_
  refine tcons (ok_if_eq dX5_vowOf_95 rfl rfl) ?_
  refine tcons (ok_iconst dX5_vowOf_98 rfl rfl) ?_
  refine tcons (ok_goto dX5_vowOf_99 rfl) ?_
  refine tcons (ok_iconst dX5_vowOf_102 rfl rfl) ?_
  refine tcons (ok_ireturn rfl dX5_vowOf_103) ?_
  refine tcons (ok_aload_n dX5_vowOf_104 rfl rfl) ?_
  refine tcons (ok_getfield (C := RX5) (T := TX5) (n := 33) rfl in_X5 (by decide) w_1008 dX5_vowOf_105 rfl) ?_
  refine tcons (ok_iload_n dX5_vowOf_108 rfl rfl) ?_
  refine tcons (ok_iaload dX5_vowOf_109 rfl) ?_
  refine tcons (ok_ireturn rfl dX5_vowOf_110) ?_
  exact fun _ h => nomatch h
def sp_X5_vowOf : Spc := fun av s N _ => match av with
  | [.inl (.inr (20, 0)), .inl (.inl v), .inl (.inl w)] => MI s ∧ f2 (isV s v) (inR w 0 4) (some (aI 0)) N s ((w = 0 → N (some (aI (s.2.1 39 0 (cl v)))) (th s 0)) ∧ (w = 1 → N (some (aI (s.2.1 36 0 (cl v)))) (th s 0)) ∧ (w = 2 → N (some (aI (s.2.1 40 0 (cl v)))) (th s 0)) ∧
      (w = 3 → s.2.1 37 0 (cl v) = 0 → N (some (aI 0)) (th s 0)) ∧ (w = 3 → ¬ s.2.1 37 0 (cl v) = 0 → N (some (aI 1)) (th s 0)) ∧ (¬ w = 0 → ¬ w = 1 → ¬ w = 2 → ¬ w = 3 → N (some (aI (s.2.1 35 0 (cl v)))) (th s 0)))
  | _ => False
set_option maxRecDepth 20000 in
set_option maxHeartbeats 2000000 in
theorem M_X5_vowOf : AMet yX5_vowOf cX5_vowOf 3 (some .int) 2 0 sp_X5_vowOf := by
  refine AMet.mk (own := RX5) (by decide) rfl [0, 1, 2] rfl tok_X5_vowOf 200 ?_
  intro av s0 N X h
  unfold sp_X5_vowOf at h
  split at h
  rotate_left
  · exact h.elim
  refine ⟨fun _ => none, ?_, fun pc P hP => nomatch hP⟩
  repeat' (first | apply And.intro | (intro q; exact absurd q (by decide)) | intro _)
  all_goals first | decide | (exact (rfl : (0 : Nat) = 0)) | (exact Nat.le_of_ble_eq_true rfl) | (exact Ib_of (MI_v h.1 (by assumption))) | (simp_all [-Int32.not_lt, -Int32.not_le, f2, stS_get]; done) | (simp_all [-Int32.not_lt, -Int32.not_le, ← Int32.not_le, f2, stS_get]; done) | (simp_all [f2, stS_get]; done)
theorem dX5_causeOf_0 : decode cX5_causeOf 0 = .ok (.aload_n 0, 1) := by decide +kernel
theorem dX5_causeOf_1 : decode cX5_causeOf 1 = .ok (.aload_n 0, 1) := by decide +kernel
theorem dX5_causeOf_2 : decode cX5_causeOf 2 = .ok (.iload_n 1, 1) := by decide +kernel
theorem dX5_causeOf_3 : decode cX5_causeOf 3 = .ok (.invokevirtual 179, 3) := by decide +kernel
theorem dX5_causeOf_6 : decode cX5_causeOf 6 = .ok (.ifCond .ne 7, 3) := by decide +kernel
theorem dX5_causeOf_9 : decode cX5_causeOf 9 = .ok (.iconst 1, 1) := by decide +kernel
theorem dX5_causeOf_10 : decode cX5_causeOf 10 = .ok (.goto 18, 3) := by decide +kernel
theorem dX5_causeOf_13 : decode cX5_causeOf 13 = .ok (.iload_n 2, 1) := by decide +kernel
theorem dX5_causeOf_14 : decode cX5_causeOf 14 = .ok (.iconst 0, 1) := by decide +kernel
theorem dX5_causeOf_15 : decode cX5_causeOf 15 = .ok (.bipush 6, 2) := by decide +kernel
theorem dX5_causeOf_17 : decode cX5_causeOf 17 = .ok (.invokestatic 99, 3) := by decide +kernel
theorem dX5_causeOf_20 : decode cX5_causeOf 20 = .ok (.ifCond .eq 7, 3) := by decide +kernel
theorem dX5_causeOf_23 : decode cX5_causeOf 23 = .ok (.iconst 0, 1) := by decide +kernel
theorem dX5_causeOf_24 : decode cX5_causeOf 24 = .ok (.goto 4, 3) := by decide +kernel
theorem dX5_causeOf_27 : decode cX5_causeOf 27 = .ok (.iconst 2, 1) := by decide +kernel
theorem dX5_causeOf_28 : decode cX5_causeOf 28 = .ok (.invokevirtual 114, 3) := by decide +kernel
theorem dX5_causeOf_31 : decode cX5_causeOf 31 = .ok (.ifCond .eq 5, 3) := by decide +kernel
theorem dX5_causeOf_34 : decode cX5_causeOf 34 = .ok (.iconst 0, 1) := by decide +kernel
theorem dX5_causeOf_35 : decode cX5_causeOf 35 = .ok (.ireturn, 1) := by decide +kernel
theorem dX5_causeOf_36 : decode cX5_causeOf 36 = .ok (.iload_n 2, 1) := by decide +kernel
theorem dX5_causeOf_37 : decode cX5_causeOf 37 = .ok (.tableswitch 71 0 6 #[43, 50, 57, 71, 71, 71, 64], 43) := by decide +kernel
theorem dX5_causeOf_80 : decode cX5_causeOf 80 = .ok (.aload_n 0, 1) := by decide +kernel
theorem dX5_causeOf_81 : decode cX5_causeOf 81 = .ok (.getfield 71, 3) := by decide +kernel
theorem dX5_causeOf_84 : decode cX5_causeOf 84 = .ok (.iload_n 1, 1) := by decide +kernel
theorem dX5_causeOf_85 : decode cX5_causeOf 85 = .ok (.iaload, 1) := by decide +kernel
theorem dX5_causeOf_86 : decode cX5_causeOf 86 = .ok (.ireturn, 1) := by decide +kernel
theorem dX5_causeOf_87 : decode cX5_causeOf 87 = .ok (.aload_n 0, 1) := by decide +kernel
theorem dX5_causeOf_88 : decode cX5_causeOf 88 = .ok (.getfield 74, 3) := by decide +kernel
theorem dX5_causeOf_91 : decode cX5_causeOf 91 = .ok (.iload_n 1, 1) := by decide +kernel
theorem dX5_causeOf_92 : decode cX5_causeOf 92 = .ok (.iaload, 1) := by decide +kernel
theorem dX5_causeOf_93 : decode cX5_causeOf 93 = .ok (.ireturn, 1) := by decide +kernel
theorem dX5_causeOf_94 : decode cX5_causeOf 94 = .ok (.aload_n 0, 1) := by decide +kernel
theorem dX5_causeOf_95 : decode cX5_causeOf 95 = .ok (.getfield 68, 3) := by decide +kernel
theorem dX5_causeOf_98 : decode cX5_causeOf 98 = .ok (.iload_n 1, 1) := by decide +kernel
theorem dX5_causeOf_99 : decode cX5_causeOf 99 = .ok (.iaload, 1) := by decide +kernel
theorem dX5_causeOf_100 : decode cX5_causeOf 100 = .ok (.ireturn, 1) := by decide +kernel
theorem dX5_causeOf_101 : decode cX5_causeOf 101 = .ok (.aload_n 0, 1) := by decide +kernel
theorem dX5_causeOf_102 : decode cX5_causeOf 102 = .ok (.getfield 80, 3) := by decide +kernel
theorem dX5_causeOf_105 : decode cX5_causeOf 105 = .ok (.iload_n 1, 1) := by decide +kernel
theorem dX5_causeOf_106 : decode cX5_causeOf 106 = .ok (.iaload, 1) := by decide +kernel
theorem dX5_causeOf_107 : decode cX5_causeOf 107 = .ok (.ireturn, 1) := by decide +kernel
theorem dX5_causeOf_108 : decode cX5_causeOf 108 = .ok (.aload_n 0, 1) := by decide +kernel
theorem dX5_causeOf_109 : decode cX5_causeOf 109 = .ok (.getfield 86, 3) := by decide +kernel
theorem dX5_causeOf_112 : decode cX5_causeOf 112 = .ok (.iconst 3, 1) := by decide +kernel
theorem dX5_causeOf_113 : decode cX5_causeOf 113 = .ok (.iload_n 1, 1) := by decide +kernel
theorem dX5_causeOf_114 : decode cX5_causeOf 114 = .ok (.imul, 1) := by decide +kernel
theorem dX5_causeOf_115 : decode cX5_causeOf 115 = .ok (.iload_n 2, 1) := by decide +kernel
theorem dX5_causeOf_116 : decode cX5_causeOf 116 = .ok (.iadd, 1) := by decide +kernel
theorem dX5_causeOf_117 : decode cX5_causeOf 117 = .ok (.iconst 3, 1) := by decide +kernel
theorem dX5_causeOf_118 : decode cX5_causeOf 118 = .ok (.isub, 1) := by decide +kernel
theorem dX5_causeOf_119 : decode cX5_causeOf 119 = .ok (.iaload, 1) := by decide +kernel
theorem dX5_causeOf_120 : decode cX5_causeOf 120 = .ok (.ireturn, 1) := by decide +kernel
def tab_X5_causeOf : List (Nat × Sem) := [(0, op_al 0 1), (1, op_al 0 2), (2, op_il 1 3), (3, op_callV 7 sp_X5_isCause 2 0 6), (6, op_if (fun x => ¬ x = 0) 13 9), (9, op_ic 1 10), (10, op_go 28), (13, op_il 2 14), (14, op_ic 0 15), (15, op_ic 6 17), (17, op_call sp_X5_isIn 3 0 20), (20, op_if (fun x => x = 0) 27 23), (23, op_ic 0 24), (24, op_go 28), (27, op_ic 2 28), (28, op_callV 7 sp_X5_fails 2 0 31), (31, op_if (fun x => x = 0) 36 34), (34, op_ic 0 35), (35, op_iret), (36, op_il 2 37), (37, op_sw [(0, 80), (1, 87), (2, 94), (3, 108), (4, 108), (5, 108), (6, 101)] 108), (80, op_al 0 81), (81, op_gf 7 24 84), (84, op_il 1 85), (85, op_iald 86), (86, op_iret), (87, op_al 0 88), (88, op_gf 7 25 91), (91, op_il 1 92), (92, op_iald 93), (93, op_iret), (94, op_al 0 95), (95, op_gf 7 23 98), (98, op_il 1 99), (99, op_iald 100), (100, op_iret), (101, op_al 0 102), (102, op_gf 7 27 105), (105, op_il 1 106), (106, op_iald 107), (107, op_iret), (108, op_al 0 109), (109, op_gf 7 29 112), (112, op_ic 3 113), (113, op_il 1 114), (114, op_bin (fun x y => x * y) 115), (115, op_il 2 116), (116, op_bin (fun x y => x + y) 117), (117, op_ic 3 118), (118, op_bin (fun x y => x - y) 119), (119, op_iald 120), (120, op_iret)]
set_option maxRecDepth 20000 in
theorem tok_X5_causeOf : ∀ q ∈ tab_X5_causeOf, Snd RX5 cX5_causeOf 3 2 0 (some .int) q.1 q.2 := by
  unfold tab_X5_causeOf
  refine tcons (ok_aload_n dX5_causeOf_0 rfl rfl) ?_
  refine tcons (ok_aload_n dX5_causeOf_1 rfl rfl) ?_
  refine tcons (ok_iload_n dX5_causeOf_2 rfl rfl) ?_
  refine tcons (ok_invokevirtual M_X5_isCause (C := RX5) (T := TX5) (nf := 33) rfl w_1236 w_1238 w_34 w_49 w_1239 ⟨rfl, by decide, by decide, by decide +kernel⟩ (by decide) (by decide) dX5_causeOf_3 rfl) ?_
  refine tcons (ok_if_ne dX5_causeOf_6 rfl rfl) ?_
  refine tcons (ok_iconst dX5_causeOf_9 rfl rfl) ?_
  refine tcons (ok_goto dX5_causeOf_10 rfl) ?_
  refine tcons (ok_iload_n dX5_causeOf_13 rfl rfl) ?_
  refine tcons (ok_iconst dX5_causeOf_14 rfl rfl) ?_
  refine tcons (ok_bipush dX5_causeOf_15 rfl rfl) ?_
  refine tcons (ok_invokestatic M_X5_isIn w_1105 w_1106 w_49 w_1107 ⟨by decide, by decide, by decide +kernel⟩ (by decide) (by decide) dX5_causeOf_17 rfl) ?_
  refine tcons (ok_if_eq dX5_causeOf_20 rfl rfl) ?_
  refine tcons (ok_iconst dX5_causeOf_23 rfl rfl) ?_
  refine tcons (ok_goto dX5_causeOf_24 rfl) ?_
  refine tcons (ok_iconst dX5_causeOf_27 rfl rfl) ?_
  refine tcons (ok_invokevirtual M_X5_fails (C := RX5) (T := TX5) (nf := 33) rfl w_1112 w_1114 w_20 w_49 w_1115 ⟨rfl, by decide, by decide, by decide +kernel⟩ (by decide) (by decide) dX5_causeOf_28 rfl) ?_
  refine tcons (ok_if_eq dX5_causeOf_31 rfl rfl) ?_
  refine tcons (ok_iconst dX5_causeOf_34 rfl rfl) ?_
  refine tcons (ok_ireturn rfl dX5_causeOf_35) ?_
  refine tcons (ok_iload_n dX5_causeOf_36 rfl rfl) ?_
  refine tcons (ok_table rfl rfl rfl rfl dX5_causeOf_37) ?_
  refine tcons (ok_aload_n dX5_causeOf_80 rfl rfl) ?_
  refine tcons (ok_getfield (C := RX5) (T := TX5) (n := 33) rfl in_X5 (by decide) w_1017 dX5_causeOf_81 rfl) ?_
  refine tcons (ok_iload_n dX5_causeOf_84 rfl rfl) ?_
  refine tcons (ok_iaload dX5_causeOf_85 rfl) ?_
  refine tcons (ok_ireturn rfl dX5_causeOf_86) ?_
  refine tcons (ok_aload_n dX5_causeOf_87 rfl rfl) ?_
  refine tcons (ok_getfield (C := RX5) (T := TX5) (n := 33) rfl in_X5 (by decide) w_1018 dX5_causeOf_88 rfl) ?_
  refine tcons (ok_iload_n dX5_causeOf_91 rfl rfl) ?_
  refine tcons (ok_iaload dX5_causeOf_92 rfl) ?_
  refine tcons (ok_ireturn rfl dX5_causeOf_93) ?_
  refine tcons (ok_aload_n dX5_causeOf_94 rfl rfl) ?_
  refine tcons (ok_getfield (C := RX5) (T := TX5) (n := 33) rfl in_X5 (by decide) w_1016 dX5_causeOf_95 rfl) ?_
  refine tcons (ok_iload_n dX5_causeOf_98 rfl rfl) ?_
  refine tcons (ok_iaload dX5_causeOf_99 rfl) ?_
  refine tcons (ok_ireturn rfl dX5_causeOf_100) ?_
  refine tcons (ok_aload_n dX5_causeOf_101 rfl rfl) ?_
  refine tcons (ok_getfield (C := RX5) (T := TX5) (n := 33) rfl in_X5 (by decide) w_1020 dX5_causeOf_102 rfl) ?_
  refine tcons (ok_iload_n dX5_causeOf_105 rfl rfl) ?_
  refine tcons (ok_iaload dX5_causeOf_106 rfl) ?_
  refine tcons (ok_ireturn rfl dX5_causeOf_107) ?_
  refine tcons (ok_aload_n dX5_causeOf_108 rfl rfl) ?_
  refine tcons (ok_getfield (C := RX5) (T := TX5) (n := 33) rfl in_X5 (by decide) w_1022 dX5_causeOf_109 rfl) ?_
  refine tcons (ok_iconst dX5_causeOf_112 rfl rfl) ?_
  refine tcons (ok_iload_n dX5_causeOf_113 rfl rfl) ?_
  refine tcons (ok_imul dX5_causeOf_114 rfl) ?_
  refine tcons (ok_iload_n dX5_causeOf_115 rfl rfl) ?_
  refine tcons (ok_iadd dX5_causeOf_116 rfl) ?_
  refine tcons (ok_iconst dX5_causeOf_117 rfl rfl) ?_
  refine tcons (ok_isub dX5_causeOf_118 rfl) ?_
  refine tcons (ok_iaload dX5_causeOf_119 rfl) ?_
  refine tcons (ok_ireturn rfl dX5_causeOf_120) ?_
  exact fun _ h => nomatch h
def sp_X5_causeOf : Spc := fun av s N _ => match av with
  | [.inl (.inr (20, 0)), .inl (.inl v), .inl (.inl w)] => MI s ∧ f2 (isC s v) (inR w 0 6) (some (aI 0)) N s ((w = 0 → N (some (aI (s.2.1 44 0 (cl v)))) (th s 0)) ∧ (w = 1 → N (some (aI (s.2.1 45 0 (cl v)))) (th s 0)) ∧ (w = 2 → N (some (aI (s.2.1 43 0 (cl v)))) (th s 0)) ∧
      (w = 6 → N (some (aI (s.2.1 47 0 (cl v)))) (th s 0)) ∧ (¬ w = 0 → ¬ w = 1 → ¬ w = 2 → ¬ w = 6 → N (some (aI (s.2.1 49 0 (cl (3 * v + w - 3))))) (th s 0)))
  | _ => False
theorem sen_vp {s : Sg} {c w : Int32} (hM : MI s) (h : isC s c) (h2 : inR w 0 6) (n0 : ¬ w = 0) (n1 : ¬ w = 1) (n2 : ¬ w = 2) (n6 : ¬ w = 6) : vp_in (3 * c + w - 3) 90 := by
  obtain ⟨j, hj, rfl⟩ := MI_cn hM h
  obtain ⟨k, hk, rfl⟩ := rg_nI (N := 6) h2 rfl
  have k0 : k ≠ 0 := by rintro rfl; exact n0 rfl
  have k1 : k ≠ 1 := by rintro rfl; exact n1 rfl
  have k2 : k ≠ 2 := by rintro rfl; exact n2 rfl
  have k6 : k ≠ 6 := by rintro rfl; exact n6 rfl
  rw [show (3 : Int32) = nI 3 from rfl, nIm, nI_add, pk_sub (by omega)]
  exact nI_vp (by omega) (by decide)
theorem sen3 {s : Sg} {c w : Int32} (hM : MI s) (h : isC s c) (h2 : w = 3 ∨ w = 4 ∨ w = 5) : vp_in (3 * c + w - 3) 90 := by
  refine sen_vp hM h ?_ ?_ ?_ ?_ ?_
  · rcases h2 with rfl | rfl | rfl <;> exact ⟨by decide, by decide⟩
  all_goals rcases h2 with rfl | rfl | rfl <;> decide
set_option maxRecDepth 20000 in
set_option maxHeartbeats 2000000 in
theorem M_X5_causeOf : AMet yX5_causeOf cX5_causeOf 3 (some .int) 2 0 sp_X5_causeOf := by
  refine AMet.mk (own := RX5) (by decide) rfl [0, 1, 2] rfl tok_X5_causeOf 200 ?_
  intro av s0 N X h
  unfold sp_X5_causeOf at h
  split at h
  rotate_left
  · exact h.elim
  refine ⟨fun _ => none, ?_, fun pc P hP => nomatch hP⟩
  repeat' (first | apply And.intro | (intro q; exact absurd q (by decide)) | intro _)
  all_goals first | decide | (exact (rfl : (0 : Nat) = 0)) | (exact Nat.le_of_ble_eq_true rfl) | (exact Ib_of (MI_c h.1 (by assumption))) | (exact Ib_of (sen3 h.1 (by assumption) (Or.inl (by assumption)))) | (exact Ib_of (sen3 h.1 (by assumption) (Or.inr (Or.inl (by assumption))))) | (exact Ib_of (sen3 h.1 (by assumption) (Or.inr (Or.inr (by assumption))))) | (exact Ib_of (sen_vp h.1 (by assumption) (by assumption) (by assumption) (by assumption) (by assumption) (by assumption))) | (simp_all [-Int32.not_lt, -Int32.not_le, f2, stS_get]; done) | (simp_all [-Int32.not_lt, -Int32.not_le, ← Int32.not_le, f2, stS_get]; done) | (simp_all [f2, stS_get]; done)

