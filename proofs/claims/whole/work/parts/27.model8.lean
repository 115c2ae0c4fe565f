theorem MI_th {s : Sg} {k : Int32} : MI (th s k) = MI s := by simp [MI, MI0, stS_get]
theorem npm_th {s : Sg} {k : Int32} : npm (th s k) = npm s := rfl
theorem nvm_th {s : Sg} {k : Int32} : nvm (th s k) = nvm s := rfl
theorem ncm_th {s : Sg} {k : Int32} : ncm (th s k) = ncm s := rfl
theorem mrow_th {s : Sg} {k : Int32} {i : Nat} : mrow (th s k) i = mrow s i := by funext j; simp [mrow, stS_get]
theorem kinM_th {s : Sg} {k p q : Int32} : kinM (th s k) p q = kinM s p q := by simp [kinM, mrow_th, npm_th]
theorem hbQ_th {s : Sg} {k : Int32} {i j : Nat} : hbQ (th s k) i j = hbQ s i j := by simp [hbQ, mof, mbd, stS_get]
theorem bbQ_th {s : Sg} {k p t : Int32} : bbQ (th s k) p t = bbQ s p t := by funext j; simp [bbQ, mof, mbd, stS_get]
theorem hasP_th {s : Sg} {k v p : Int32} : hasP (th s k) v p = hasP s v p := by simp [hasP, stS_get]
theorem dX5_kin_0 : decode cX5_kin 0 = .ok (.aload_n 0, 1) := by decide +kernel
theorem dX5_kin_1 : decode cX5_kin 1 = .ok (.aload_n 0, 1) := by decide +kernel
theorem dX5_kin_2 : decode cX5_kin 2 = .ok (.iload_n 1, 1) := by decide +kernel
theorem dX5_kin_3 : decode cX5_kin 3 = .ok (.invokevirtual 106, 3) := by decide +kernel
theorem dX5_kin_6 : decode cX5_kin 6 = .ok (.ifCond .eq 15, 3) := by decide +kernel
theorem dX5_kin_9 : decode cX5_kin 9 = .ok (.aload_n 0, 1) := by decide +kernel
theorem dX5_kin_10 : decode cX5_kin 10 = .ok (.iload_n 2, 1) := by decide +kernel
theorem dX5_kin_11 : decode cX5_kin 11 = .ok (.invokevirtual 106, 3) := by decide +kernel
theorem dX5_kin_14 : decode cX5_kin 14 = .ok (.ifCond .eq 7, 3) := by decide +kernel
theorem dX5_kin_17 : decode cX5_kin 17 = .ok (.iconst 0, 1) := by decide +kernel
theorem dX5_kin_18 : decode cX5_kin 18 = .ok (.goto 4, 3) := by decide +kernel
theorem dX5_kin_21 : decode cX5_kin 21 = .ok (.iconst 1, 1) := by decide +kernel
theorem dX5_kin_22 : decode cX5_kin 22 = .ok (.invokevirtual 114, 3) := by decide +kernel
theorem dX5_kin_25 : decode cX5_kin 25 = .ok (.ifCond .eq 7, 3) := by decide +kernel
theorem dX5_kin_28 : decode cX5_kin 28 = .ok (.iconst 0, 1) := by decide +kernel
theorem dX5_kin_29 : decode cX5_kin 29 = .ok (.goto 9, 3) := by decide +kernel
theorem dX5_kin_32 : decode cX5_kin 32 = .ok (.aload_n 0, 1) := by decide +kernel
theorem dX5_kin_33 : decode cX5_kin 33 = .ok (.iload_n 1, 1) := by decide +kernel
theorem dX5_kin_34 : decode cX5_kin 34 = .ok (.iload_n 2, 1) := by decide +kernel
theorem dX5_kin_35 : decode cX5_kin 35 = .ok (.invokevirtual 124, 3) := by decide +kernel
theorem dX5_kin_38 : decode cX5_kin 38 = .ok (.ireturn, 1) := by decide +kernel
def tab_X5_kin : List (Nat × Sem) := [(0, op_al 0 1), (1, op_al 0 2), (2, op_il 1 3), (3, op_callV 7 sp_X5_isPerson 2 0 6), (6, op_if (fun x => x = 0) 21 9), (9, op_al 0 10), (10, op_il 2 11), (11, op_callV 7 sp_X5_isPerson 2 0 14), (14, op_if (fun x => x = 0) 21 17), (17, op_ic 0 18), (18, op_go 22), (21, op_ic 1 22), (22, op_callV 7 sp_X5_fails 2 0 25), (25, op_if (fun x => x = 0) 32 28), (28, op_ic 0 29), (29, op_go 38), (32, op_al 0 33), (33, op_il 1 34), (34, op_il 2 35), (35, op_callV 7 sp_X5_kinOf 3 0 38), (38, op_iret)]
set_option maxRecDepth 20000 in
theorem tok_X5_kin : ∀ q ∈ tab_X5_kin, Snd RX5 cX5_kin 3 2 0 (some .int) q.1 q.2 := by
  unfold tab_X5_kin
  refine tcons (ok_aload_n dX5_kin_0 rfl rfl) ?_
  refine tcons (ok_aload_n dX5_kin_1 rfl rfl) ?_
  refine tcons (ok_iload_n dX5_kin_2 rfl rfl) ?_
  refine tcons (ok_invokevirtual M_X5_isPerson (C := RX5) (T := TX5) (nf := 33) rfl w_1101 w_1103 w_19 w_49 w_1104 ⟨rfl, by decide, by decide, by decide +kernel⟩ (by decide) (by decide) dX5_kin_3 rfl) ?_
  refine tcons (ok_if_eq dX5_kin_6 rfl rfl) ?_
  refine tcons (ok_aload_n dX5_kin_9 rfl rfl) ?_
  refine tcons (ok_iload_n dX5_kin_10 rfl rfl) ?_
  refine tcons (ok_invokevirtual M_X5_isPerson (C := RX5) (T := TX5) (nf := 33) rfl w_1101 w_1103 w_19 w_49 w_1104 ⟨rfl, by decide, by decide, by decide +kernel⟩ (by decide) (by decide) dX5_kin_11 rfl) ?_
  refine tcons (ok_if_eq dX5_kin_14 rfl rfl) ?_
  refine tcons (ok_iconst dX5_kin_17 rfl rfl) ?_
  refine tcons (ok_goto dX5_kin_18 rfl) ?_
  refine tcons (ok_iconst dX5_kin_21 rfl rfl) ?_
  refine tcons (ok_invokevirtual M_X5_fails (C := RX5) (T := TX5) (nf := 33) rfl w_1112 w_1114 w_20 w_49 w_1115 ⟨rfl, by decide, by decide, by decide +kernel⟩ (by decide) (by decide) dX5_kin_22 rfl) ?_
  refine tcons (ok_if_eq dX5_kin_25 rfl rfl) ?_
  refine tcons (ok_iconst dX5_kin_28 rfl rfl) ?_
  refine tcons (ok_goto dX5_kin_29 rfl) ?_
  refine tcons (ok_aload_n dX5_kin_32 rfl rfl) ?_
  refine tcons (ok_iload_n dX5_kin_33 rfl rfl) ?_
  refine tcons (ok_iload_n dX5_kin_34 rfl rfl) ?_
  refine tcons (ok_invokevirtual M_X5_kinOf (C := RX5) (T := TX5) (nf := 33) rfl w_1160 w_1162 w_26 w_49 w_1163 ⟨rfl, by decide, by decide, by decide +kernel⟩ (by decide) (by decide) dX5_kin_35 rfl) ?_
  refine tcons (ok_ireturn rfl dX5_kin_38) ?_
  exact fun _ h => nomatch h
def sp_X5_kin : Spc := fun av s N _ => match av with
  | [.inl (.inr (20, 0)), .inl (.inl p), .inl (.inl q)] => MI s ∧ f1 (isP s p ∧ isP s q) (some (aI 0)) N s (N (some (aI (kinM s p q))) (th s 0))
  | _ => False
set_option maxRecDepth 20000 in
set_option maxHeartbeats 2000000 in
theorem M_X5_kin : AMet yX5_kin cX5_kin 3 (some .int) 2 0 sp_X5_kin := by
  refine AMet.mk (own := RX5) (by decide) rfl [0, 1, 2] rfl tok_X5_kin 200 ?_
  intro av s0 N X h
  unfold sp_X5_kin at h
  split at h
  rotate_left
  · exact h.elim
  refine ⟨fun _ => none, ?_, fun pc P hP => nomatch hP⟩
  repeat' (first | apply And.intro | (intro q; exact absurd q (by decide)) | intro _)
  all_goals first | decide | (exact (rfl : (0 : Nat) = 0)) | (exact Nat.le_of_ble_eq_true rfl) | (rw [MI_th]; exact h.1) | (exact Ib_of (MI_p h.1 (by assumption))) | (simp_all [f1, kinM_th]; done)
theorem dX5_bound_0 : decode cX5_bound 0 = .ok (.aload_n 0, 1) := by decide +kernel
theorem dX5_bound_1 : decode cX5_bound 1 = .ok (.aload_n 0, 1) := by decide +kernel
theorem dX5_bound_2 : decode cX5_bound 2 = .ok (.iload_n 1, 1) := by decide +kernel
theorem dX5_bound_3 : decode cX5_bound 3 = .ok (.invokevirtual 106, 3) := by decide +kernel
theorem dX5_bound_6 : decode cX5_bound 6 = .ok (.ifCond .ne 7, 3) := by decide +kernel
theorem dX5_bound_9 : decode cX5_bound 9 = .ok (.iconst 1, 1) := by decide +kernel
theorem dX5_bound_10 : decode cX5_bound 10 = .ok (.goto 18, 3) := by decide +kernel
theorem dX5_bound_13 : decode cX5_bound 13 = .ok (.iload_n 2, 1) := by decide +kernel
theorem dX5_bound_14 : decode cX5_bound 14 = .ok (.iconst 0, 1) := by decide +kernel
theorem dX5_bound_15 : decode cX5_bound 15 = .ok (.ldc 201, 2) := by decide +kernel
theorem dX5_bound_17 : decode cX5_bound 17 = .ok (.invokestatic 99, 3) := by decide +kernel
theorem dX5_bound_20 : decode cX5_bound 20 = .ok (.ifCond .eq 7, 3) := by decide +kernel
theorem dX5_bound_23 : decode cX5_bound 23 = .ok (.iconst 0, 1) := by decide +kernel
theorem dX5_bound_24 : decode cX5_bound 24 = .ok (.goto 4, 3) := by decide +kernel
theorem dX5_bound_27 : decode cX5_bound 27 = .ok (.iconst 2, 1) := by decide +kernel
theorem dX5_bound_28 : decode cX5_bound 28 = .ok (.invokevirtual 114, 3) := by decide +kernel
theorem dX5_bound_31 : decode cX5_bound 31 = .ok (.ifCond .eq 7, 3) := by decide +kernel
theorem dX5_bound_34 : decode cX5_bound 34 = .ok (.iconst 0, 1) := by decide +kernel
theorem dX5_bound_35 : decode cX5_bound 35 = .ok (.goto 9, 3) := by decide +kernel
theorem dX5_bound_38 : decode cX5_bound 38 = .ok (.aload_n 0, 1) := by decide +kernel
theorem dX5_bound_39 : decode cX5_bound 39 = .ok (.iload_n 1, 1) := by decide +kernel
theorem dX5_bound_40 : decode cX5_bound 40 = .ok (.iload_n 2, 1) := by decide +kernel
theorem dX5_bound_41 : decode cX5_bound 41 = .ok (.invokevirtual 202, 3) := by decide +kernel
theorem dX5_bound_44 : decode cX5_bound 44 = .ok (.ireturn, 1) := by decide +kernel
def tab_X5_bound : List (Nat × Sem) := [(0, op_al 0 1), (1, op_al 0 2), (2, op_il 1 3), (3, op_callV 7 sp_X5_isPerson 2 0 6), (6, op_if (fun x => ¬ x = 0) 13 9), (9, op_ic 1 10), (10, op_go 28), (13, op_il 2 14), (14, op_ic 0 15), (15, op_ic 1000000 17), (17, op_call sp_X5_isIn 3 0 20), (20, op_if (fun x => x = 0) 27 23), (23, op_ic 0 24), (24, op_go 28), (27, op_ic 2 28), (28, op_callV 7 sp_X5_fails 2 0 31), (31, op_if (fun x => x = 0) 38 34), (34, op_ic 0 35), (35, op_go 44), (38, op_al 0 39), (39, op_il 1 40), (40, op_il 2 41), (41, op_callV 7 sp_X5_boundBy 3 0 44), (44, op_iret)]
set_option maxRecDepth 20000 in
theorem tok_X5_bound : ∀ q ∈ tab_X5_bound, Snd RX5 cX5_bound 3 2 0 (some .int) q.1 q.2 := by
  unfold tab_X5_bound
  refine tcons (ok_aload_n dX5_bound_0 rfl rfl) ?_
  refine tcons (ok_aload_n dX5_bound_1 rfl rfl) ?_
  refine tcons (ok_iload_n dX5_bound_2 rfl rfl) ?_
  refine tcons (ok_invokevirtual M_X5_isPerson (C := RX5) (T := TX5) (nf := 33) rfl w_1101 w_1103 w_19 w_49 w_1104 ⟨rfl, by decide, by decide, by decide +kernel⟩ (by decide) (by decide) dX5_bound_3 rfl) ?_
  refine tcons (ok_if_ne dX5_bound_6 rfl rfl) ?_
  refine tcons (ok_iconst dX5_bound_9 rfl rfl) ?_
  refine tcons (ok_goto dX5_bound_10 rfl) ?_
  refine tcons (ok_iload_n dX5_bound_13 rfl rfl) ?_
  refine tcons (ok_iconst dX5_bound_14 rfl rfl) ?_
  refine tcons (ok_ldc w_1305 dX5_bound_15 rfl) ?_
  refine tcons (ok_invokestatic M_X5_isIn w_1105 w_1106 w_49 w_1107 ⟨by decide, by decide, by decide +kernel⟩ (by decide) (by decide) dX5_bound_17 rfl) ?_
  refine tcons (ok_if_eq dX5_bound_20 rfl rfl) ?_
  refine tcons (ok_iconst dX5_bound_23 rfl rfl) ?_
  refine tcons (ok_goto dX5_bound_24 rfl) ?_
  refine tcons (ok_iconst dX5_bound_27 rfl rfl) ?_
  refine tcons (ok_invokevirtual M_X5_fails (C := RX5) (T := TX5) (nf := 33) rfl w_1112 w_1114 w_20 w_49 w_1115 ⟨rfl, by decide, by decide, by decide +kernel⟩ (by decide) (by decide) dX5_bound_28 rfl) ?_
  refine tcons (ok_if_eq dX5_bound_31 rfl rfl) ?_
  refine tcons (ok_iconst dX5_bound_34 rfl rfl) ?_
  refine tcons (ok_goto dX5_bound_35 rfl) ?_
  refine tcons (ok_aload_n dX5_bound_38 rfl rfl) ?_
  refine tcons (ok_iload_n dX5_bound_39 rfl rfl) ?_
  refine tcons (ok_iload_n dX5_bound_40 rfl rfl) ?_
  refine tcons (ok_invokevirtual M_X5_boundBy (C := RX5) (T := TX5) (nf := 33) rfl w_1306 w_1308 w_38 w_49 w_1309 ⟨rfl, by decide, by decide, by decide +kernel⟩ (by decide) (by decide) dX5_bound_41 rfl) ?_
  refine tcons (ok_ireturn rfl dX5_bound_44) ?_
  exact fun _ h => nomatch h
def sp_X5_bound : Spc := fun av s N _ => match av with
  | [.inl (.inr (20, 0)), .inl (.inl p), .inl (.inl t)] => MI s ∧ f2 (isP s p) (inR t 0 1000000) (some (aI 0)) N s (∀ x, lowest (bbQ s p t) 0 (nvm s) x → N (some (aI x)) (th s 0))
  | _ => False
set_option maxRecDepth 20000 in
set_option maxHeartbeats 2000000 in
theorem M_X5_bound : AMet yX5_bound cX5_bound 3 (some .int) 2 0 sp_X5_bound := by
  refine AMet.mk (own := RX5) (by decide) rfl [0, 1, 2] rfl tok_X5_bound 200 ?_
  intro av s0 N X h
  unfold sp_X5_bound at h
  split at h
  rotate_left
  · exact h.elim
  refine ⟨fun _ => none, ?_, fun pc P hP => nomatch hP⟩
  repeat' (first | apply And.intro | (intro q; exact absurd q (by decide)) | intro _)
  all_goals first | decide | (exact (rfl : (0 : Nat) = 0)) | (exact Nat.le_of_ble_eq_true rfl) | (rw [MI_th]; exact h.1) | (simp_all [f2, bbQ_th, nvm_th]; done)
/-- the vows' persons, the causes' vows lie in their rows -/
def WI0 (s : Sg) : Prop := (∀ k, k < nvm s → Ib (s.2.1 33 0 k) 24 ∧ Ib (s.2.1 34 0 k) 24) ∧ ∀ c, c < ncm s → ∃ v, v < nvm s ∧ s.2.1 42 0 c = nI v
def WI (s : Sg) : Prop := WI0 s = True
theorem WI_v {s : Sg} (hM : MI s) (h : WI s) {v : Int32} (hv : isV s v) : vwI s v := by
  obtain ⟨-, ⟨n, hn, he⟩, -⟩ := of_eq_true hM
  obtain ⟨j, hj, rfl⟩ := ix_nI hv he (by omega)
  have ev : cl (nI j) = j := nI_clamp (by omega)
  have := (of_eq_true h).1 j (by rw [nvm_eq he hn]; exact hj)
  exact ⟨nIb (by omega) (by decide), by rw [ev]; exact this.1, by rw [ev]; exact this.2⟩
theorem WI_c {s : Sg} (hM : MI s) (h : WI s) {c : Int32} (hv : isC s c) : Ib (s.2.1 42 0 (cl c)) 30 := by
  obtain ⟨-, ⟨n, hn, he⟩, ⟨k, hk, hf⟩⟩ := of_eq_true hM
  obtain ⟨j, hj, rfl⟩ := ix_nI hv hf (by omega)
  obtain ⟨v, h1, h2⟩ := (of_eq_true h).2 j (by rw [ncm_eq hf hk]; exact hj)
  rw [show cl (nI j) = j from nI_clamp (by omega), h2]
  rw [nvm_eq he hn] at h1
  exact nIb (by omega) (by decide)
theorem dX5_hasCause_0 : decode cX5_hasCause 0 = .ok (.aload_n 0, 1) := by decide +kernel
theorem dX5_hasCause_1 : decode cX5_hasCause 1 = .ok (.aload_n 0, 1) := by decide +kernel
theorem dX5_hasCause_2 : decode cX5_hasCause 2 = .ok (.iload_n 1, 1) := by decide +kernel
theorem dX5_hasCause_3 : decode cX5_hasCause 3 = .ok (.invokevirtual 154, 3) := by decide +kernel
theorem dX5_hasCause_6 : decode cX5_hasCause 6 = .ok (.ifCond .ne 7, 3) := by decide +kernel
theorem dX5_hasCause_9 : decode cX5_hasCause 9 = .ok (.iconst 1, 1) := by decide +kernel
theorem dX5_hasCause_10 : decode cX5_hasCause 10 = .ok (.goto 15, 3) := by decide +kernel
theorem dX5_hasCause_13 : decode cX5_hasCause 13 = .ok (.iload_n 2, 1) := by decide +kernel
theorem dX5_hasCause_14 : decode cX5_hasCause 14 = .ok (.invokestatic 111, 3) := by decide +kernel
theorem dX5_hasCause_17 : decode cX5_hasCause 17 = .ok (.ifCond .eq 7, 3) := by decide +kernel
theorem dX5_hasCause_20 : decode cX5_hasCause 20 = .ok (.iconst 0, 1) := by decide +kernel
theorem dX5_hasCause_21 : decode cX5_hasCause 21 = .ok (.goto 4, 3) := by decide +kernel
theorem dX5_hasCause_24 : decode cX5_hasCause 24 = .ok (.iconst 2, 1) := by decide +kernel
theorem dX5_hasCause_25 : decode cX5_hasCause 25 = .ok (.invokevirtual 114, 3) := by decide +kernel
theorem dX5_hasCause_28 : decode cX5_hasCause 28 = .ok (.ifCond .ne 16, 3) := by decide +kernel
theorem dX5_hasCause_31 : decode cX5_hasCause 31 = .ok (.aload_n 0, 1) := by decide +kernel
theorem dX5_hasCause_32 : decode cX5_hasCause 32 = .ok (.iload_n 1, 1) := by decide +kernel
theorem dX5_hasCause_33 : decode cX5_hasCause 33 = .ok (.iload_n 2, 1) := by decide +kernel
theorem dX5_hasCause_34 : decode cX5_hasCause 34 = .ok (.invokevirtual 176, 3) := by decide +kernel
theorem dX5_hasCause_37 : decode cX5_hasCause 37 = .ok (.ifCond .eq 7, 3) := by decide +kernel
theorem dX5_hasCause_40 : decode cX5_hasCause 40 = .ok (.iconst 1, 1) := by decide +kernel
theorem dX5_hasCause_41 : decode cX5_hasCause 41 = .ok (.goto 4, 3) := by decide +kernel
theorem dX5_hasCause_44 : decode cX5_hasCause 44 = .ok (.iconst 0, 1) := by decide +kernel
theorem dX5_hasCause_45 : decode cX5_hasCause 45 = .ok (.ireturn, 1) := by decide +kernel
def tab_X5_hasCause : List (Nat × Sem) := [(0, op_al 0 1), (1, op_al 0 2), (2, op_il 1 3), (3, op_callV 7 sp_X5_isVow 2 0 6), (6, op_if (fun x => ¬ x = 0) 13 9), (9, op_ic 1 10), (10, op_go 25), (13, op_il 2 14), (14, op_call sp_X5_isPlace 1 0 17), (17, op_if (fun x => x = 0) 24 20), (20, op_ic 0 21), (21, op_go 25), (24, op_ic 2 25), (25, op_callV 7 sp_X5_fails 2 0 28), (28, op_if (fun x => ¬ x = 0) 44 31), (31, op_al 0 32), (32, op_il 1 33), (33, op_il 2 34), (34, op_callV 7 sp_X5_has 3 0 37), (37, op_if (fun x => x = 0) 44 40), (40, op_ic 1 41), (41, op_go 45), (44, op_ic 0 45), (45, op_zret)]
set_option maxRecDepth 20000 in
theorem tok_X5_hasCause : ∀ q ∈ tab_X5_hasCause, Snd RX5 cX5_hasCause 3 2 0 (some .boolean) q.1 q.2 := by
  unfold tab_X5_hasCause
  refine tcons (ok_aload_n dX5_hasCause_0 rfl rfl) ?_
  refine tcons (ok_aload_n dX5_hasCause_1 rfl rfl) ?_
  refine tcons (ok_iload_n dX5_hasCause_2 rfl rfl) ?_
  refine tcons (ok_invokevirtual M_X5_isVow (C := RX5) (T := TX5) (nf := 33) rfl w_1186 w_1188 w_27 w_49 w_1189 ⟨rfl, by decide, by decide, by decide +kernel⟩ (by decide) (by decide) dX5_hasCause_3 rfl) ?_
  refine tcons (ok_if_ne dX5_hasCause_6 rfl rfl) ?_
  refine tcons (ok_iconst dX5_hasCause_9 rfl rfl) ?_
  refine tcons (ok_goto dX5_hasCause_10 rfl) ?_
  refine tcons (ok_iload_n dX5_hasCause_13 rfl rfl) ?_
  refine tcons (ok_invokestatic M_X5_isPlace w_1109 w_1110 w_49 w_1111 ⟨by decide, by decide, by decide +kernel⟩ (by decide) (by decide) dX5_hasCause_14 rfl) ?_
  refine tcons (ok_if_eq dX5_hasCause_17 rfl rfl) ?_
  refine tcons (ok_iconst dX5_hasCause_20 rfl rfl) ?_
  refine tcons (ok_goto dX5_hasCause_21 rfl) ?_
  refine tcons (ok_iconst dX5_hasCause_24 rfl rfl) ?_
  refine tcons (ok_invokevirtual M_X5_fails (C := RX5) (T := TX5) (nf := 33) rfl w_1112 w_1114 w_20 w_49 w_1115 ⟨rfl, by decide, by decide, by decide +kernel⟩ (by decide) (by decide) dX5_hasCause_25 rfl) ?_
  refine tcons (ok_if_ne dX5_hasCause_28 rfl rfl) ?_
  refine tcons (ok_aload_n dX5_hasCause_31 rfl rfl) ?_
  refine tcons (ok_iload_n dX5_hasCause_32 rfl rfl) ?_
  refine tcons (ok_iload_n dX5_hasCause_33 rfl rfl) ?_
  refine tcons (ok_invokevirtual M_X5_has (C := RX5) (T := TX5) (nf := 33) rfl w_1228 w_1230 w_33 w_49 w_1231 ⟨rfl, by decide, by decide, by decide +kernel⟩ (by decide) (by decide) dX5_hasCause_34 rfl) ?_
  refine tcons (ok_if_eq dX5_hasCause_37 rfl rfl) ?_
  refine tcons (ok_iconst dX5_hasCause_40 rfl rfl) ?_
  refine tcons (ok_goto dX5_hasCause_41 rfl) ?_
  refine tcons (ok_iconst dX5_hasCause_44 rfl rfl) ?_
  refine tcons (ok_zreturn rfl (Or.inl rfl) dX5_hasCause_45) ?_
  exact fun _ h => nomatch h
def sp_X5_hasCause : Spc := fun av s N _ => match av with
  | [.inl (.inr (20, 0)), .inl (.inl v), .inl (.inl p)] => MI s ∧ WI s ∧ f2 (isV s v) (inR p 0 7) (some (aI 0)) N s (br (hasP s v p) N (th s 0))
  | _ => False
set_option maxRecDepth 20000 in
set_option maxHeartbeats 2000000 in
theorem M_X5_hasCause : AMet yX5_hasCause cX5_hasCause 3 (some .boolean) 2 0 sp_X5_hasCause := by
  refine AMet.mk (own := RX5) (by decide) rfl [0, 1, 2] rfl tok_X5_hasCause 200 ?_
  intro av s0 N X h
  unfold sp_X5_hasCause at h
  split at h
  rotate_left
  · exact h.elim
  refine ⟨fun _ => none, ?_, fun pc P hP => nomatch hP⟩
  repeat' (first | apply And.intro | (intro q; exact absurd q (by decide)) | intro _)
  all_goals first | decide | (exact (rfl : (0 : Nat) = 0)) | (exact Nat.le_of_ble_eq_true rfl) | (exact (WI_v h.1 h.2.1 (by assumption)).1) | (exact (WI_v h.1 h.2.1 (by assumption)).2.1) | (exact (WI_v h.1 h.2.1 (by assumption)).2.2) | (simp_all [f2, br, hasP_th]; done)
/-- what hinders a vow, as the model finds it -/
noncomputable def hdM (s : Sg) (v : Nat) : Int32 := iteP (∃ k, k < v ∧ hbQ s v k) (s.2.1 38 0 v ||| 4) (s.2.1 38 0 v)
theorem dX5_hindered_0 : decode cX5_hindered 0 = .ok (.aload_n 0, 1) := by decide +kernel
theorem dX5_hindered_1 : decode cX5_hindered 1 = .ok (.aload_n 0, 1) := by decide +kernel
theorem dX5_hindered_2 : decode cX5_hindered 2 = .ok (.iload_n 1, 1) := by decide +kernel
theorem dX5_hindered_3 : decode cX5_hindered 3 = .ok (.invokevirtual 154, 3) := by decide +kernel
theorem dX5_hindered_6 : decode cX5_hindered 6 = .ok (.ifCond .eq 7, 3) := by decide +kernel
theorem dX5_hindered_9 : decode cX5_hindered 9 = .ok (.iconst 0, 1) := by decide +kernel
theorem dX5_hindered_10 : decode cX5_hindered 10 = .ok (.goto 4, 3) := by decide +kernel
theorem dX5_hindered_13 : decode cX5_hindered 13 = .ok (.iconst 1, 1) := by decide +kernel
theorem dX5_hindered_14 : decode cX5_hindered 14 = .ok (.invokevirtual 114, 3) := by decide +kernel
theorem dX5_hindered_17 : decode cX5_hindered 17 = .ok (.ifCond .eq 7, 3) := by decide +kernel
theorem dX5_hindered_20 : decode cX5_hindered 20 = .ok (.iconst 0, 1) := by decide +kernel
theorem dX5_hindered_21 : decode cX5_hindered 21 = .ok (.goto 8, 3) := by decide +kernel
theorem dX5_hindered_24 : decode cX5_hindered 24 = .ok (.aload_n 0, 1) := by decide +kernel
theorem dX5_hindered_25 : decode cX5_hindered 25 = .ok (.iload_n 1, 1) := by decide +kernel
theorem dX5_hindered_26 : decode cX5_hindered 26 = .ok (.invokevirtual 157, 3) := by decide +kernel
theorem dX5_hindered_29 : decode cX5_hindered 29 = .ok (.ireturn, 1) := by decide +kernel
def tab_X5_hindered : List (Nat × Sem) := [(0, op_al 0 1), (1, op_al 0 2), (2, op_il 1 3), (3, op_callV 7 sp_X5_isVow 2 0 6), (6, op_if (fun x => x = 0) 13 9), (9, op_ic 0 10), (10, op_go 14), (13, op_ic 1 14), (14, op_callV 7 sp_X5_fails 2 0 17), (17, op_if (fun x => x = 0) 24 20), (20, op_ic 0 21), (21, op_go 29), (24, op_al 0 25), (25, op_il 1 26), (26, op_callV 7 sp_X5_hinderedBy 2 0 29), (29, op_iret)]
set_option maxRecDepth 20000 in
theorem tok_X5_hindered : ∀ q ∈ tab_X5_hindered, Snd RX5 cX5_hindered 2 2 0 (some .int) q.1 q.2 := by
  unfold tab_X5_hindered
  refine tcons (ok_aload_n dX5_hindered_0 rfl rfl) ?_
  refine tcons (ok_aload_n dX5_hindered_1 rfl rfl) ?_
  refine tcons (ok_iload_n dX5_hindered_2 rfl rfl) ?_
  refine tcons (ok_invokevirtual M_X5_isVow (C := RX5) (T := TX5) (nf := 33) rfl w_1186 w_1188 w_27 w_49 w_1189 ⟨rfl, by decide, by decide, by decide +kernel⟩ (by decide) (by decide) dX5_hindered_3 rfl) ?_
  refine tcons (ok_if_eq dX5_hindered_6 rfl rfl) ?_
  refine tcons (ok_iconst dX5_hindered_9 rfl rfl) ?_
  refine tcons (ok_goto dX5_hindered_10 rfl) ?_
  refine tcons (ok_iconst dX5_hindered_13 rfl rfl) ?_
  refine tcons (ok_invokevirtual M_X5_fails (C := RX5) (T := TX5) (nf := 33) rfl w_1112 w_1114 w_20 w_49 w_1115 ⟨rfl, by decide, by decide, by decide +kernel⟩ (by decide) (by decide) dX5_hindered_14 rfl) ?_
  refine tcons (ok_if_eq dX5_hindered_17 rfl rfl) ?_
  refine tcons (ok_iconst dX5_hindered_20 rfl rfl) ?_
  refine tcons (ok_goto dX5_hindered_21 rfl) ?_
  refine tcons (ok_aload_n dX5_hindered_24 rfl rfl) ?_
  refine tcons (ok_iload_n dX5_hindered_25 rfl rfl) ?_
  refine tcons (ok_invokevirtual M_X5_hinderedBy (C := RX5) (T := TX5) (nf := 33) rfl w_1190 w_1192 w_28 w_49 w_1193 ⟨rfl, by decide, by decide, by decide +kernel⟩ (by decide) (by decide) dX5_hindered_26 rfl) ?_
  refine tcons (ok_ireturn rfl dX5_hindered_29) ?_
  exact fun _ h => nomatch h
def sp_X5_hindered : Spc := fun av s N _ => match av with
  | [.inl (.inr (20, 0)), .inl (.inl v)] => MI s ∧ f1 (isV s v) (some (aI 0)) N s (N (some (aI (hdM s (cl v)))) (th s 0))
  | _ => False
set_option maxRecDepth 20000 in
set_option maxHeartbeats 2000000 in
theorem M_X5_hindered : AMet yX5_hindered cX5_hindered 2 (some .int) 2 0 sp_X5_hindered := by
  refine AMet.mk (own := RX5) (by decide) rfl [0, 1] rfl tok_X5_hindered 200 ?_
  intro av s0 N X h
  unfold sp_X5_hindered at h
  split at h
  rotate_left
  · exact h.elim
  refine ⟨fun _ => none, ?_, fun pc P hP => nomatch hP⟩
  repeat' (first | apply And.intro | (intro q; exact absurd q (by decide)) | intro _)
  all_goals first | decide | (exact (rfl : (0 : Nat) = 0)) | (exact Nat.le_of_ble_eq_true rfl) | (exact Ib_of (MI_v h.1 (by assumption))) | (simp_all only [hbQ_th, f1]; simp_all [stS_get, hdM, iteP]; done)
theorem dX5_heal_0 : decode cX5_heal 0 = .ok (.aload_n 0, 1) := by decide +kernel
theorem dX5_heal_1 : decode cX5_heal 1 = .ok (.iload_n 1, 1) := by decide +kernel
theorem dX5_heal_2 : decode cX5_heal 2 = .ok (.invokevirtual 154, 3) := by decide +kernel
theorem dX5_heal_5 : decode cX5_heal 5 = .ok (.ifCond .eq 61, 3) := by decide +kernel
theorem dX5_heal_8 : decode cX5_heal 8 = .ok (.aload_n 0, 1) := by decide +kernel
theorem dX5_heal_9 : decode cX5_heal 9 = .ok (.getfield 53, 3) := by decide +kernel
theorem dX5_heal_12 : decode cX5_heal 12 = .ok (.iload_n 1, 1) := by decide +kernel
theorem dX5_heal_13 : decode cX5_heal 13 = .ok (.baload, 1) := by decide +kernel
theorem dX5_heal_14 : decode cX5_heal 14 = .ok (.ifCond .eq 52, 3) := by decide +kernel
theorem dX5_heal_17 : decode cX5_heal 17 = .ok (.aload_n 0, 1) := by decide +kernel
theorem dX5_heal_18 : decode cX5_heal 18 = .ok (.getfield 26, 3) := by decide +kernel
theorem dX5_heal_21 : decode cX5_heal 21 = .ok (.aload_n 0, 1) := by decide +kernel
theorem dX5_heal_22 : decode cX5_heal 22 = .ok (.getfield 41, 3) := by decide +kernel
theorem dX5_heal_25 : decode cX5_heal 25 = .ok (.iload_n 1, 1) := by decide +kernel
theorem dX5_heal_26 : decode cX5_heal 26 = .ok (.iaload, 1) := by decide +kernel
theorem dX5_heal_27 : decode cX5_heal 27 = .ok (.baload, 1) := by decide +kernel
theorem dX5_heal_28 : decode cX5_heal 28 = .ok (.ifCond .ne 38, 3) := by decide +kernel
theorem dX5_heal_31 : decode cX5_heal 31 = .ok (.aload_n 0, 1) := by decide +kernel
theorem dX5_heal_32 : decode cX5_heal 32 = .ok (.getfield 26, 3) := by decide +kernel
theorem dX5_heal_35 : decode cX5_heal 35 = .ok (.aload_n 0, 1) := by decide +kernel
theorem dX5_heal_36 : decode cX5_heal 36 = .ok (.getfield 44, 3) := by decide +kernel
theorem dX5_heal_39 : decode cX5_heal 39 = .ok (.iload_n 1, 1) := by decide +kernel
theorem dX5_heal_40 : decode cX5_heal 40 = .ok (.iaload, 1) := by decide +kernel
theorem dX5_heal_41 : decode cX5_heal 41 = .ok (.baload, 1) := by decide +kernel
theorem dX5_heal_42 : decode cX5_heal 42 = .ok (.ifCond .ne 24, 3) := by decide +kernel
theorem dX5_heal_45 : decode cX5_heal 45 = .ok (.aload_n 0, 1) := by decide +kernel
theorem dX5_heal_46 : decode cX5_heal 46 = .ok (.getfield 59, 3) := by decide +kernel
theorem dX5_heal_49 : decode cX5_heal 49 = .ok (.iload_n 1, 1) := by decide +kernel
theorem dX5_heal_50 : decode cX5_heal 50 = .ok (.iaload, 1) := by decide +kernel
theorem dX5_heal_51 : decode cX5_heal 51 = .ok (.ifCond .ne 15, 3) := by decide +kernel
theorem dX5_heal_54 : decode cX5_heal 54 = .ok (.aload_n 0, 1) := by decide +kernel
theorem dX5_heal_55 : decode cX5_heal 55 = .ok (.iload_n 1, 1) := by decide +kernel
theorem dX5_heal_56 : decode cX5_heal 56 = .ok (.invokevirtual 157, 3) := by decide +kernel
theorem dX5_heal_59 : decode cX5_heal 59 = .ok (.ifCond .ne 7, 3) := by decide +kernel
theorem dX5_heal_62 : decode cX5_heal 62 = .ok (.iconst 1, 1) := by decide +kernel
theorem dX5_heal_63 : decode cX5_heal 63 = .ok (.goto 4, 3) := by decide +kernel
theorem dX5_heal_66 : decode cX5_heal 66 = .ok (.iconst 0, 1) := by decide +kernel
theorem dX5_heal_67 : decode cX5_heal 67 = .ok (.istore_n 2, 1) := by decide +kernel
theorem dX5_heal_68 : decode cX5_heal 68 = .ok (.aload_n 0, 1) := by decide +kernel
theorem dX5_heal_69 : decode cX5_heal 69 = .ok (.aload_n 0, 1) := by decide +kernel
theorem dX5_heal_70 : decode cX5_heal 70 = .ok (.iload_n 1, 1) := by decide +kernel
theorem dX5_heal_71 : decode cX5_heal 71 = .ok (.invokevirtual 154, 3) := by decide +kernel
theorem dX5_heal_74 : decode cX5_heal 74 = .ok (.ifCond .ne 7, 3) := by decide +kernel
theorem dX5_heal_77 : decode cX5_heal 77 = .ok (.iconst 1, 1) := by decide +kernel
theorem dX5_heal_78 : decode cX5_heal 78 = .ok (.goto 12, 3) := by decide +kernel
theorem dX5_heal_81 : decode cX5_heal 81 = .ok (.iload_n 2, 1) := by decide +kernel
theorem dX5_heal_82 : decode cX5_heal 82 = .ok (.ifCond .eq 7, 3) := by decide +kernel
theorem dX5_heal_85 : decode cX5_heal 85 = .ok (.iconst 0, 1) := by decide +kernel
theorem dX5_heal_86 : decode cX5_heal 86 = .ok (.goto 4, 3) := by decide +kernel
theorem dX5_heal_89 : decode cX5_heal 89 = .ok (.iconst 2, 1) := by decide +kernel
theorem dX5_heal_90 : decode cX5_heal 90 = .ok (.invokevirtual 114, 3) := by decide +kernel
theorem dX5_heal_93 : decode cX5_heal 93 = .ok (.ifCond .ne 10, 3) := by decide +kernel
theorem dX5_heal_96 : decode cX5_heal 96 = .ok (.aload_n 0, 1) := by decide +kernel
theorem dX5_heal_97 : decode cX5_heal 97 = .ok (.getfield 53, 3) := by decide +kernel
theorem dX5_heal_100 : decode cX5_heal 100 = .ok (.iload_n 1, 1) := by decide +kernel
theorem dX5_heal_101 : decode cX5_heal 101 = .ok (.iconst 0, 1) := by decide +kernel
theorem dX5_heal_102 : decode cX5_heal 102 = .ok (.bastore, 1) := by decide +kernel
theorem dX5_heal_103 : decode cX5_heal 103 = .ok (.return_, 1) := by decide +kernel
def tab_X5_heal : List (Nat × Sem) := [(0, op_al 0 1), (1, op_il 1 2), (2, op_callV 7 sp_X5_isVow 2 0 5), (5, op_if (fun x => x = 0) 66 8), (8, op_al 0 9), (9, op_gf 7 17 12), (12, op_il 1 13), (13, op_bald 14), (14, op_if (fun x => x = 0) 66 17), (17, op_al 0 18), (18, op_gf 7 7 21), (21, op_al 0 22), (22, op_gf 7 13 25), (25, op_il 1 26), (26, op_iald 27), (27, op_bald 28), (28, op_if (fun x => ¬ x = 0) 66 31), (31, op_al 0 32), (32, op_gf 7 7 35), (35, op_al 0 36), (36, op_gf 7 14 39), (39, op_il 1 40), (40, op_iald 41), (41, op_bald 42), (42, op_if (fun x => ¬ x = 0) 66 45), (45, op_al 0 46), (46, op_gf 7 19 49), (49, op_il 1 50), (50, op_iald 51), (51, op_if (fun x => ¬ x = 0) 66 54), (54, op_al 0 55), (55, op_il 1 56), (56, op_callV 7 sp_X5_hinderedBy 2 0 59), (59, op_if (fun x => ¬ x = 0) 66 62), (62, op_ic 1 63), (63, op_go 67), (66, op_ic 0 67), (67, op_is 2 68), (68, op_al 0 69), (69, op_al 0 70), (70, op_il 1 71), (71, op_callV 7 sp_X5_isVow 2 0 74), (74, op_if (fun x => ¬ x = 0) 81 77), (77, op_ic 1 78), (78, op_go 90), (81, op_il 2 82), (82, op_if (fun x => x = 0) 89 85), (85, op_ic 0 86), (86, op_go 90), (89, op_ic 2 90), (90, op_callV 7 sp_X5_fails 2 0 93), (93, op_if (fun x => ¬ x = 0) 103 96), (96, op_al 0 97), (97, op_gf 7 17 100), (100, op_il 1 101), (101, op_ic 0 102), (102, op_bast 103), (103, op_vret)]
set_option maxRecDepth 20000 in
theorem tok_X5_heal : ∀ q ∈ tab_X5_heal, Snd RX5 cX5_heal 3 2 0 none q.1 q.2 := by
  unfold tab_X5_heal
  refine tcons (ok_aload_n dX5_heal_0 rfl rfl) ?_
  refine tcons (ok_iload_n dX5_heal_1 rfl rfl) ?_
  refine tcons (ok_invokevirtual M_X5_isVow (C := RX5) (T := TX5) (nf := 33) rfl w_1186 w_1188 w_27 w_49 w_1189 ⟨rfl, by decide, by decide, by decide +kernel⟩ (by decide) (by decide) dX5_heal_2 rfl) ?_
  refine tcons (ok_if_eq dX5_heal_5 rfl rfl) ?_
  refine tcons (ok_aload_n dX5_heal_8 rfl rfl) ?_
  refine tcons (ok_getfield (C := RX5) (T := TX5) (n := 33) rfl in_X5 (by decide) w_1010 dX5_heal_9 rfl) ?_
  refine tcons (ok_iload_n dX5_heal_12 rfl rfl) ?_
  refine tcons (ok_baload dX5_heal_13 rfl) ?_
  refine tcons (ok_if_eq dX5_heal_14 rfl rfl) ?_
  refine tcons (ok_aload_n dX5_heal_17 rfl rfl) ?_
  refine tcons (ok_getfield (C := RX5) (T := TX5) (n := 33) rfl in_X5 (by decide) w_1000 dX5_heal_18 rfl) ?_
  refine tcons (ok_aload_n dX5_heal_21 rfl rfl) ?_
  refine tcons (ok_getfield (C := RX5) (T := TX5) (n := 33) rfl in_X5 (by decide) w_1006 dX5_heal_22 rfl) ?_
  refine tcons (ok_iload_n dX5_heal_25 rfl rfl) ?_
  refine tcons (ok_iaload dX5_heal_26 rfl) ?_
  refine tcons (ok_baload dX5_heal_27 rfl) ?_
  refine tcons (ok_if_ne dX5_heal_28 rfl rfl) ?_
  refine tcons (ok_aload_n dX5_heal_31 rfl rfl) ?_
  refine tcons (ok_getfield (C := RX5) (T := TX5) (n := 33) rfl in_X5 (by decide) w_1000 dX5_heal_32 rfl) ?_
  refine tcons (ok_aload_n dX5_heal_35 rfl rfl) ?_
  refine tcons (ok_getfield (C := RX5) (T := TX5) (n := 33) rfl in_X5 (by decide) w_1007 dX5_heal_36 rfl) ?_
  refine tcons (ok_iload_n dX5_heal_39 rfl rfl) ?_
  refine tcons (ok_iaload dX5_heal_40 rfl) ?_
  refine tcons (ok_baload dX5_heal_41 rfl) ?_
  refine tcons (ok_if_ne dX5_heal_42 rfl rfl) ?_
  refine tcons (ok_aload_n dX5_heal_45 rfl rfl) ?_
  refine tcons (ok_getfield (C := RX5) (T := TX5) (n := 33) rfl in_X5 (by decide) w_1012 dX5_heal_46 rfl) ?_
  refine tcons (ok_iload_n dX5_heal_49 rfl rfl) ?_
  refine tcons (ok_iaload dX5_heal_50 rfl) ?_
  refine tcons (ok_if_ne dX5_heal_51 rfl rfl) ?_
  refine tcons (ok_aload_n dX5_heal_54 rfl rfl) ?_
  refine tcons (ok_iload_n dX5_heal_55 rfl rfl) ?_
  refine tcons (ok_invokevirtual M_X5_hinderedBy (C := RX5) (T := TX5) (nf := 33) rfl w_1190 w_1192 w_28 w_49 w_1193 ⟨rfl, by decide, by decide, by decide +kernel⟩ (by decide) (by decide) dX5_heal_56 rfl) ?_
  refine tcons (ok_if_ne dX5_heal_59 rfl rfl) ?_
  refine tcons (ok_iconst dX5_heal_62 rfl rfl) ?_
  refine tcons (ok_goto dX5_heal_63 rfl) ?_
  refine tcons (ok_iconst dX5_heal_66 rfl rfl) ?_
  refine tcons (ok_istore_n dX5_heal_67 rfl (by decide) rfl) ?_
  refine tcons (ok_aload_n dX5_heal_68 rfl rfl) ?_
  refine tcons (ok_aload_n dX5_heal_69 rfl rfl) ?_
  refine tcons (ok_iload_n dX5_heal_70 rfl rfl) ?_
  refine tcons (ok_invokevirtual M_X5_isVow (C := RX5) (T := TX5) (nf := 33) rfl w_1186 w_1188 w_27 w_49 w_1189 ⟨rfl, by decide, by decide, by decide +kernel⟩ (by decide) (by decide) dX5_heal_71 rfl) ?_
  refine tcons (ok_if_ne dX5_heal_74 rfl rfl) ?_
  refine tcons (ok_iconst dX5_heal_77 rfl rfl) ?_
  refine tcons (ok_goto dX5_heal_78 rfl) ?_
  refine tcons (ok_iload_n dX5_heal_81 rfl rfl) ?_
  refine tcons (ok_if_eq dX5_heal_82 rfl rfl) ?_
  refine tcons (ok_iconst dX5_heal_85 rfl rfl) ?_
  refine tcons (ok_goto dX5_heal_86 rfl) ?_
  refine tcons (ok_iconst dX5_heal_89 rfl rfl) ?_
  refine tcons (ok_invokevirtual M_X5_fails (C := RX5) (T := TX5) (nf := 33) rfl w_1112 w_1114 w_20 w_49 w_1115 ⟨rfl, by decide, by decide, by decide +kernel⟩ (by decide) (by decide) dX5_heal_90 rfl) ?_
  refine tcons (ok_if_ne dX5_heal_93 rfl rfl) ?_
  refine tcons (ok_aload_n dX5_heal_96 rfl rfl) ?_
  refine tcons (ok_getfield (C := RX5) (T := TX5) (n := 33) rfl in_X5 (by decide) w_1010 dX5_heal_97 rfl) ?_
  refine tcons (ok_iload_n dX5_heal_100 rfl rfl) ?_
  refine tcons (ok_iconst dX5_heal_101 rfl rfl) ?_
  refine tcons (ok_bastore dX5_heal_102 rfl) ?_
  refine tcons (ok_vreturn rfl dX5_heal_103) ?_
  exact fun _ h => nomatch h
def sp_X5_heal : Spc := fun av s N _ => match av with
  | [.inl (.inr (20, 0)), .inl (.inl v)] => MI s ∧ WI s ∧ f2 (isV s v) (¬ s.2.1 37 0 (cl v) = 0 ∧ s.2.1 27 0 (cl (s.2.1 33 0 (cl v))) = 0 ∧ s.2.1 27 0 (cl (s.2.1 34 0 (cl v))) = 0 ∧ s.2.1 39 0 (cl v) = 0 ∧ hdM s (cl v) = 0) none N s (N none (stS (th s 0) 37 0 (cl v) 0))
  | _ => False
set_option maxRecDepth 20000 in
set_option maxHeartbeats 2000000 in
theorem M_X5_heal : AMet yX5_heal cX5_heal 3 none 2 0 sp_X5_heal := by
  refine AMet.mk (own := RX5) (by decide) rfl [0, 1, 2] rfl tok_X5_heal 200 ?_
  intro av s0 N X h
  unfold sp_X5_heal at h
  split at h
  rotate_left
  · exact h.elim
  refine ⟨fun _ => none, ?_, fun pc P hP => nomatch hP⟩
  repeat' (first | apply And.intro | (intro q; exact absurd q (by decide)) | intro _)
  all_goals first | decide | (exact (rfl : (0 : Nat) = 0)) | (exact Nat.le_of_ble_eq_true rfl) | (exact (WI_v h.1 h.2.1 (by assumption)).1) | (exact (WI_v h.1 h.2.1 (by assumption)).2.1) | (exact (WI_v h.1 h.2.1 (by assumption)).2.2) | (simp_all [f2, hdM, iteP]; done)
theorem dX5_grace_0 : decode cX5_grace 0 = .ok (.aload_n 0, 1) := by decide +kernel
theorem dX5_grace_1 : decode cX5_grace 1 = .ok (.iload_n 1, 1) := by decide +kernel
theorem dX5_grace_2 : decode cX5_grace 2 = .ok (.invokevirtual 154, 3) := by decide +kernel
theorem dX5_grace_5 : decode cX5_grace 5 = .ok (.ifCond .eq 25, 3) := by decide +kernel
theorem dX5_grace_8 : decode cX5_grace 8 = .ok (.aload_n 0, 1) := by decide +kernel
theorem dX5_grace_9 : decode cX5_grace 9 = .ok (.getfield 59, 3) := by decide +kernel
theorem dX5_grace_12 : decode cX5_grace 12 = .ok (.iload_n 1, 1) := by decide +kernel
theorem dX5_grace_13 : decode cX5_grace 13 = .ok (.iaload, 1) := by decide +kernel
theorem dX5_grace_14 : decode cX5_grace 14 = .ok (.ifCond .ne 16, 3) := by decide +kernel
theorem dX5_grace_17 : decode cX5_grace 17 = .ok (.aload_n 0, 1) := by decide +kernel
theorem dX5_grace_18 : decode cX5_grace 18 = .ok (.iload_n 1, 1) := by decide +kernel
theorem dX5_grace_19 : decode cX5_grace 19 = .ok (.iconst (-1), 1) := by decide +kernel
theorem dX5_grace_20 : decode cX5_grace 20 = .ok (.invokevirtual 167, 3) := by decide +kernel
theorem dX5_grace_23 : decode cX5_grace 23 = .ok (.ifCond .eq 7, 3) := by decide +kernel
theorem dX5_grace_26 : decode cX5_grace 26 = .ok (.iconst 1, 1) := by decide +kernel
theorem dX5_grace_27 : decode cX5_grace 27 = .ok (.goto 4, 3) := by decide +kernel
theorem dX5_grace_30 : decode cX5_grace 30 = .ok (.iconst 0, 1) := by decide +kernel
theorem dX5_grace_31 : decode cX5_grace 31 = .ok (.istore_n 2, 1) := by decide +kernel
theorem dX5_grace_32 : decode cX5_grace 32 = .ok (.aload_n 0, 1) := by decide +kernel
theorem dX5_grace_33 : decode cX5_grace 33 = .ok (.aload_n 0, 1) := by decide +kernel
theorem dX5_grace_34 : decode cX5_grace 34 = .ok (.iload_n 1, 1) := by decide +kernel
theorem dX5_grace_35 : decode cX5_grace 35 = .ok (.invokevirtual 154, 3) := by decide +kernel
theorem dX5_grace_38 : decode cX5_grace 38 = .ok (.ifCond .ne 7, 3) := by decide +kernel
theorem dX5_grace_41 : decode cX5_grace 41 = .ok (.iconst 1, 1) := by decide +kernel
theorem dX5_grace_42 : decode cX5_grace 42 = .ok (.goto 12, 3) := by decide +kernel
theorem dX5_grace_45 : decode cX5_grace 45 = .ok (.iload_n 2, 1) := by decide +kernel
theorem dX5_grace_46 : decode cX5_grace 46 = .ok (.ifCond .eq 7, 3) := by decide +kernel
theorem dX5_grace_49 : decode cX5_grace 49 = .ok (.iconst 0, 1) := by decide +kernel
theorem dX5_grace_50 : decode cX5_grace 50 = .ok (.goto 4, 3) := by decide +kernel
theorem dX5_grace_53 : decode cX5_grace 53 = .ok (.iconst 2, 1) := by decide +kernel
theorem dX5_grace_54 : decode cX5_grace 54 = .ok (.invokevirtual 114, 3) := by decide +kernel
theorem dX5_grace_57 : decode cX5_grace 57 = .ok (.ifCond .ne 9, 3) := by decide +kernel
theorem dX5_grace_60 : decode cX5_grace 60 = .ok (.aload_n 0, 1) := by decide +kernel
theorem dX5_grace_61 : decode cX5_grace 61 = .ok (.iload_n 1, 1) := by decide +kernel
theorem dX5_grace_62 : decode cX5_grace 62 = .ok (.iconst 2, 1) := by decide +kernel
theorem dX5_grace_63 : decode cX5_grace 63 = .ok (.invokevirtual 120, 3) := by decide +kernel
theorem dX5_grace_66 : decode cX5_grace 66 = .ok (.return_, 1) := by decide +kernel
def tab_X5_grace : List (Nat × Sem) := [(0, op_al 0 1), (1, op_il 1 2), (2, op_callV 7 sp_X5_isVow 2 0 5), (5, op_if (fun x => x = 0) 30 8), (8, op_al 0 9), (9, op_gf 7 19 12), (12, op_il 1 13), (13, op_iald 14), (14, op_if (fun x => ¬ x = 0) 30 17), (17, op_al 0 18), (18, op_il 1 19), (19, op_ic (-1) 20), (20, op_callV 7 sp_X5_isQuiet 3 0 23), (23, op_if (fun x => x = 0) 30 26), (26, op_ic 1 27), (27, op_go 31), (30, op_ic 0 31), (31, op_is 2 32), (32, op_al 0 33), (33, op_al 0 34), (34, op_il 1 35), (35, op_callV 7 sp_X5_isVow 2 0 38), (38, op_if (fun x => ¬ x = 0) 45 41), (41, op_ic 1 42), (42, op_go 54), (45, op_il 2 46), (46, op_if (fun x => x = 0) 53 49), (49, op_ic 0 50), (50, op_go 54), (53, op_ic 2 54), (54, op_callV 7 sp_X5_fails 2 0 57), (57, op_if (fun x => ¬ x = 0) 66 60), (60, op_al 0 61), (61, op_il 1 62), (62, op_ic 2 63), (63, op_callV 7 sp_X5_ends 3 0 66), (66, op_vret)]
set_option maxRecDepth 20000 in
theorem tok_X5_grace : ∀ q ∈ tab_X5_grace, Snd RX5 cX5_grace 3 2 0 none q.1 q.2 := by
  unfold tab_X5_grace
  refine tcons (ok_aload_n dX5_grace_0 rfl rfl) ?_
  refine tcons (ok_iload_n dX5_grace_1 rfl rfl) ?_
  refine tcons (ok_invokevirtual M_X5_isVow (C := RX5) (T := TX5) (nf := 33) rfl w_1186 w_1188 w_27 w_49 w_1189 ⟨rfl, by decide, by decide, by decide +kernel⟩ (by decide) (by decide) dX5_grace_2 rfl) ?_
  refine tcons (ok_if_eq dX5_grace_5 rfl rfl) ?_
  refine tcons (ok_aload_n dX5_grace_8 rfl rfl) ?_
  refine tcons (ok_getfield (C := RX5) (T := TX5) (n := 33) rfl in_X5 (by decide) w_1012 dX5_grace_9 rfl) ?_
  refine tcons (ok_iload_n dX5_grace_12 rfl rfl) ?_
  refine tcons (ok_iaload dX5_grace_13 rfl) ?_
  refine tcons (ok_if_ne dX5_grace_14 rfl rfl) ?_
  refine tcons (ok_aload_n dX5_grace_17 rfl rfl) ?_
  refine tcons (ok_iload_n dX5_grace_18 rfl rfl) ?_
  refine tcons (ok_iconst dX5_grace_19 rfl rfl) ?_
  refine tcons (ok_invokevirtual M_X5_isQuiet (C := RX5) (T := TX5) (nf := 33) rfl w_1206 w_1208 w_31 w_49 w_1209 ⟨rfl, by decide, by decide, by decide +kernel⟩ (by decide) (by decide) dX5_grace_20 rfl) ?_
  refine tcons (ok_if_eq dX5_grace_23 rfl rfl) ?_
  refine tcons (ok_iconst dX5_grace_26 rfl rfl) ?_
  refine tcons (ok_goto dX5_grace_27 rfl) ?_
  refine tcons (ok_iconst dX5_grace_30 rfl rfl) ?_
  refine tcons (ok_istore_n dX5_grace_31 rfl (by decide) rfl) ?_
  refine tcons (ok_aload_n dX5_grace_32 rfl rfl) ?_
  refine tcons (ok_aload_n dX5_grace_33 rfl rfl) ?_
  refine tcons (ok_iload_n dX5_grace_34 rfl rfl) ?_
  refine tcons (ok_invokevirtual M_X5_isVow (C := RX5) (T := TX5) (nf := 33) rfl w_1186 w_1188 w_27 w_49 w_1189 ⟨rfl, by decide, by decide, by decide +kernel⟩ (by decide) (by decide) dX5_grace_35 rfl) ?_
  refine tcons (ok_if_ne dX5_grace_38 rfl rfl) ?_
  refine tcons (ok_iconst dX5_grace_41 rfl rfl) ?_
  refine tcons (ok_goto dX5_grace_42 rfl) ?_
  refine tcons (ok_iload_n dX5_grace_45 rfl rfl) ?_
  refine tcons (ok_if_eq dX5_grace_46 rfl rfl) ?_
  refine tcons (ok_iconst dX5_grace_49 rfl rfl) ?_
  refine tcons (ok_goto dX5_grace_50 rfl) ?_
  refine tcons (ok_iconst dX5_grace_53 rfl rfl) ?_
  refine tcons (ok_invokevirtual M_X5_fails (C := RX5) (T := TX5) (nf := 33) rfl w_1112 w_1114 w_20 w_49 w_1115 ⟨rfl, by decide, by decide, by decide +kernel⟩ (by decide) (by decide) dX5_grace_54 rfl) ?_
  refine tcons (ok_if_ne dX5_grace_57 rfl rfl) ?_
  refine tcons (ok_aload_n dX5_grace_60 rfl rfl) ?_
  refine tcons (ok_iload_n dX5_grace_61 rfl rfl) ?_
  refine tcons (ok_iconst dX5_grace_62 rfl rfl) ?_
  refine tcons (ok_invokevirtual M_X5_ends (C := RX5) (T := TX5) (nf := 33) rfl w_1136 w_1138 w_21 w_49 w_1139 ⟨rfl, by decide, by decide, by decide +kernel⟩ (by decide) (by decide) dX5_grace_63 rfl) ?_
  refine tcons (ok_vreturn rfl dX5_grace_66) ?_
  exact fun _ h => nomatch h
def sp_X5_grace : Spc := fun av s N _ => match av with
  | [.inl (.inr (20, 0)), .inl (.inl v)] => MI s ∧ f2 (isV s v) (s.2.1 39 0 (cl v) = 0 ∧ quietM s v (-1)) none N s (N none (stS (stS (th s 0) 39 0 (cl v) 2) 40 0 (cl v) (s.2.1 20 0 0)))
  | _ => False
set_option maxRecDepth 20000 in
set_option maxHeartbeats 2000000 in
theorem M_X5_grace : AMet yX5_grace cX5_grace 3 none 2 0 sp_X5_grace := by
  refine AMet.mk (own := RX5) (by decide) rfl [0, 1, 2] rfl tok_X5_grace 200 ?_
  intro av s0 N X h
  unfold sp_X5_grace at h
  split at h
  rotate_left
  · exact h.elim
  refine ⟨fun _ => none, ?_, fun pc P hP => nomatch hP⟩
  repeat' (first | apply And.intro | (intro q; exact absurd q (by decide)) | intro _)
  all_goals first | decide | (exact (rfl : (0 : Nat) = 0)) | (exact Nat.le_of_ble_eq_true rfl) | (exact h.1) | (exact Ib_of (MI_v h.1 (by assumption))) | (simp_all [f2, stS_get]; done)
noncomputable def dcM (s : Sg) (v : Nat) : Int32 := hdM s v + iteP (s.2.1 37 0 v = 0) 0 16
theorem dX5_documents_0 : decode cX5_documents 0 = .ok (.aload_n 0, 1) := by decide +kernel
theorem dX5_documents_1 : decode cX5_documents 1 = .ok (.iload_n 1, 1) := by decide +kernel
theorem dX5_documents_2 : decode cX5_documents 2 = .ok (.invokevirtual 154, 3) := by decide +kernel
theorem dX5_documents_5 : decode cX5_documents 5 = .ok (.ifCond .eq 27, 3) := by decide +kernel
theorem dX5_documents_8 : decode cX5_documents 8 = .ok (.aload_n 0, 1) := by decide +kernel
theorem dX5_documents_9 : decode cX5_documents 9 = .ok (.iload_n 1, 1) := by decide +kernel
theorem dX5_documents_10 : decode cX5_documents 10 = .ok (.invokevirtual 157, 3) := by decide +kernel
theorem dX5_documents_13 : decode cX5_documents 13 = .ok (.aload_n 0, 1) := by decide +kernel
theorem dX5_documents_14 : decode cX5_documents 14 = .ok (.getfield 53, 3) := by decide +kernel
theorem dX5_documents_17 : decode cX5_documents 17 = .ok (.iload_n 1, 1) := by decide +kernel
theorem dX5_documents_18 : decode cX5_documents 18 = .ok (.baload, 1) := by decide +kernel
theorem dX5_documents_19 : decode cX5_documents 19 = .ok (.ifCond .eq 8, 3) := by decide +kernel
theorem dX5_documents_22 : decode cX5_documents 22 = .ok (.bipush 16, 2) := by decide +kernel
theorem dX5_documents_24 : decode cX5_documents 24 = .ok (.goto 4, 3) := by decide +kernel
theorem dX5_documents_27 : decode cX5_documents 27 = .ok (.iconst 0, 1) := by decide +kernel
theorem dX5_documents_28 : decode cX5_documents 28 = .ok (.iadd, 1) := by decide +kernel
theorem dX5_documents_29 : decode cX5_documents 29 = .ok (.goto 4, 3) := by decide +kernel
theorem dX5_documents_32 : decode cX5_documents 32 = .ok (.iconst 0, 1) := by decide +kernel
theorem dX5_documents_33 : decode cX5_documents 33 = .ok (.istore_n 2, 1) := by decide +kernel
theorem dX5_documents_34 : decode cX5_documents 34 = .ok (.aload_n 0, 1) := by decide +kernel
theorem dX5_documents_35 : decode cX5_documents 35 = .ok (.aload_n 0, 1) := by decide +kernel
theorem dX5_documents_36 : decode cX5_documents 36 = .ok (.iload_n 1, 1) := by decide +kernel
theorem dX5_documents_37 : decode cX5_documents 37 = .ok (.invokevirtual 154, 3) := by decide +kernel
theorem dX5_documents_40 : decode cX5_documents 40 = .ok (.ifCond .ne 7, 3) := by decide +kernel
theorem dX5_documents_43 : decode cX5_documents 43 = .ok (.iconst 1, 1) := by decide +kernel
theorem dX5_documents_44 : decode cX5_documents 44 = .ok (.goto 29, 3) := by decide +kernel
theorem dX5_documents_47 : decode cX5_documents 47 = .ok (.aload_n 0, 1) := by decide +kernel
theorem dX5_documents_48 : decode cX5_documents 48 = .ok (.iload_n 1, 1) := by decide +kernel
theorem dX5_documents_49 : decode cX5_documents 49 = .ok (.invokevirtual 170, 3) := by decide +kernel
theorem dX5_documents_52 : decode cX5_documents 52 = .ok (.ifCond .eq 20, 3) := by decide +kernel
theorem dX5_documents_55 : decode cX5_documents 55 = .ok (.iload_n 2, 1) := by decide +kernel
theorem dX5_documents_56 : decode cX5_documents 56 = .ok (.ifCond .le 16, 3) := by decide +kernel
theorem dX5_documents_59 : decode cX5_documents 59 = .ok (.aload_n 0, 1) := by decide +kernel
theorem dX5_documents_60 : decode cX5_documents 60 = .ok (.iload_n 1, 1) := by decide +kernel
theorem dX5_documents_61 : decode cX5_documents 61 = .ok (.iconst (-1), 1) := by decide +kernel
theorem dX5_documents_62 : decode cX5_documents 62 = .ok (.invokevirtual 167, 3) := by decide +kernel
theorem dX5_documents_65 : decode cX5_documents 65 = .ok (.ifCond .eq 7, 3) := by decide +kernel
theorem dX5_documents_68 : decode cX5_documents 68 = .ok (.iconst 0, 1) := by decide +kernel
theorem dX5_documents_69 : decode cX5_documents 69 = .ok (.goto 4, 3) := by decide +kernel
theorem dX5_documents_72 : decode cX5_documents 72 = .ok (.iconst 2, 1) := by decide +kernel
theorem dX5_documents_73 : decode cX5_documents 73 = .ok (.invokevirtual 114, 3) := by decide +kernel
theorem dX5_documents_76 : decode cX5_documents 76 = .ok (.ifCond .eq 5, 3) := by decide +kernel
theorem dX5_documents_79 : decode cX5_documents 79 = .ok (.iconst 0, 1) := by decide +kernel
theorem dX5_documents_80 : decode cX5_documents 80 = .ok (.ireturn, 1) := by decide +kernel
theorem dX5_documents_81 : decode cX5_documents 81 = .ok (.aload_n 0, 1) := by decide +kernel
theorem dX5_documents_82 : decode cX5_documents 82 = .ok (.iload_n 1, 1) := by decide +kernel
theorem dX5_documents_83 : decode cX5_documents 83 = .ok (.iconst 1, 1) := by decide +kernel
theorem dX5_documents_84 : decode cX5_documents 84 = .ok (.invokevirtual 120, 3) := by decide +kernel
theorem dX5_documents_87 : decode cX5_documents 87 = .ok (.iload_n 2, 1) := by decide +kernel
theorem dX5_documents_88 : decode cX5_documents 88 = .ok (.ireturn, 1) := by decide +kernel
def tab_X5_documents : List (Nat × Sem) := [(0, op_al 0 1), (1, op_il 1 2), (2, op_callV 7 sp_X5_isVow 2 0 5), (5, op_if (fun x => x = 0) 32 8), (8, op_al 0 9), (9, op_il 1 10), (10, op_callV 7 sp_X5_hinderedBy 2 0 13), (13, op_al 0 14), (14, op_gf 7 17 17), (17, op_il 1 18), (18, op_bald 19), (19, op_if (fun x => x = 0) 27 22), (22, op_ic 16 24), (24, op_go 28), (27, op_ic 0 28), (28, op_bin (fun x y => x + y) 29), (29, op_go 33), (32, op_ic 0 33), (33, op_is 2 34), (34, op_al 0 35), (35, op_al 0 36), (36, op_il 1 37), (37, op_callV 7 sp_X5_isVow 2 0 40), (40, op_if (fun x => ¬ x = 0) 47 43), (43, op_ic 1 44), (44, op_go 73), (47, op_al 0 48), (48, op_il 1 49), (49, op_callV 7 sp_X5_isTold 2 0 52), (52, op_if (fun x => x = 0) 72 55), (55, op_il 2 56), (56, op_if (fun x => x ≤ 0) 72 59), (59, op_al 0 60), (60, op_il 1 61), (61, op_ic (-1) 62), (62, op_callV 7 sp_X5_isQuiet 3 0 65), (65, op_if (fun x => x = 0) 72 68), (68, op_ic 0 69), (69, op_go 73), (72, op_ic 2 73), (73, op_callV 7 sp_X5_fails 2 0 76), (76, op_if (fun x => x = 0) 81 79), (79, op_ic 0 80), (80, op_iret), (81, op_al 0 82), (82, op_il 1 83), (83, op_ic 1 84), (84, op_callV 7 sp_X5_ends 3 0 87), (87, op_il 2 88), (88, op_iret)]
set_option maxRecDepth 20000 in
theorem tok_X5_documents : ∀ q ∈ tab_X5_documents, Snd RX5 cX5_documents 3 2 0 (some .int) q.1 q.2 := by
  unfold tab_X5_documents
  refine tcons (ok_aload_n dX5_documents_0 rfl rfl) ?_
  refine tcons (ok_iload_n dX5_documents_1 rfl rfl) ?_
  refine tcons (ok_invokevirtual M_X5_isVow (C := RX5) (T := TX5) (nf := 33) rfl w_1186 w_1188 w_27 w_49 w_1189 ⟨rfl, by decide, by decide, by decide +kernel⟩ (by decide) (by decide) dX5_documents_2 rfl) ?_
  refine tcons (ok_if_eq dX5_documents_5 rfl rfl) ?_
  refine tcons (ok_aload_n dX5_documents_8 rfl rfl) ?_
  refine tcons (ok_iload_n dX5_documents_9 rfl rfl) ?_
  refine tcons (ok_invokevirtual M_X5_hinderedBy (C := RX5) (T := TX5) (nf := 33) rfl w_1190 w_1192 w_28 w_49 w_1193 ⟨rfl, by decide, by decide, by decide +kernel⟩ (by decide) (by decide) dX5_documents_10 rfl) ?_
  refine tcons (ok_aload_n dX5_documents_13 rfl rfl) ?_
  refine tcons (ok_getfield (C := RX5) (T := TX5) (n := 33) rfl in_X5 (by decide) w_1010 dX5_documents_14 rfl) ?_
  refine tcons (ok_iload_n dX5_documents_17 rfl rfl) ?_
  refine tcons (ok_baload dX5_documents_18 rfl) ?_
  refine tcons (ok_if_eq dX5_documents_19 rfl rfl) ?_
  refine tcons (ok_bipush dX5_documents_22 rfl rfl) ?_
  refine tcons (ok_goto dX5_documents_24 rfl) ?_
  refine tcons (ok_iconst dX5_documents_27 rfl rfl) ?_
  refine tcons (ok_iadd dX5_documents_28 rfl) ?_
  refine tcons (ok_goto dX5_documents_29 rfl) ?_
  refine tcons (ok_iconst dX5_documents_32 rfl rfl) ?_
  refine tcons (ok_istore_n dX5_documents_33 rfl (by decide) rfl) ?_
  refine tcons (ok_aload_n dX5_documents_34 rfl rfl) ?_
  refine tcons (ok_aload_n dX5_documents_35 rfl rfl) ?_
  refine tcons (ok_iload_n dX5_documents_36 rfl rfl) ?_
  refine tcons (ok_invokevirtual M_X5_isVow (C := RX5) (T := TX5) (nf := 33) rfl w_1186 w_1188 w_27 w_49 w_1189 ⟨rfl, by decide, by decide, by decide +kernel⟩ (by decide) (by decide) dX5_documents_37 rfl) ?_
  refine tcons (ok_if_ne dX5_documents_40 rfl rfl) ?_
  refine tcons (ok_iconst dX5_documents_43 rfl rfl) ?_
  refine tcons (ok_goto dX5_documents_44 rfl) ?_
  refine tcons (ok_aload_n dX5_documents_47 rfl rfl) ?_
  refine tcons (ok_iload_n dX5_documents_48 rfl rfl) ?_
  refine tcons (ok_invokevirtual M_X5_isTold (C := RX5) (T := TX5) (nf := 33) rfl w_1217 w_1219 w_32 w_49 w_1220 ⟨rfl, by decide, by decide, by decide +kernel⟩ (by decide) (by decide) dX5_documents_49 rfl) ?_
  refine tcons (ok_if_eq dX5_documents_52 rfl rfl) ?_
  refine tcons (ok_iload_n dX5_documents_55 rfl rfl) ?_
  refine tcons (ok_if_le dX5_documents_56 rfl rfl) ?_
  refine tcons (ok_aload_n dX5_documents_59 rfl rfl) ?_
  refine tcons (ok_iload_n dX5_documents_60 rfl rfl) ?_
  refine tcons (ok_iconst dX5_documents_61 rfl rfl) ?_
  refine tcons (ok_invokevirtual M_X5_isQuiet (C := RX5) (T := TX5) (nf := 33) rfl w_1206 w_1208 w_31 w_49 w_1209 ⟨rfl, by decide, by decide, by decide +kernel⟩ (by decide) (by decide) dX5_documents_62 rfl) ?_
  refine tcons (ok_if_eq dX5_documents_65 rfl rfl) ?_
  refine tcons (ok_iconst dX5_documents_68 rfl rfl) ?_
  refine tcons (ok_goto dX5_documents_69 rfl) ?_
  refine tcons (ok_iconst dX5_documents_72 rfl rfl) ?_
  refine tcons (ok_invokevirtual M_X5_fails (C := RX5) (T := TX5) (nf := 33) rfl w_1112 w_1114 w_20 w_49 w_1115 ⟨rfl, by decide, by decide, by decide +kernel⟩ (by decide) (by decide) dX5_documents_73 rfl) ?_
  refine tcons (ok_if_eq dX5_documents_76 rfl rfl) ?_
  refine tcons (ok_iconst dX5_documents_79 rfl rfl) ?_
  refine tcons (ok_ireturn rfl dX5_documents_80) ?_
  refine tcons (ok_aload_n dX5_documents_81 rfl rfl) ?_
  refine tcons (ok_iload_n dX5_documents_82 rfl rfl) ?_
  refine tcons (ok_iconst dX5_documents_83 rfl rfl) ?_
  refine tcons (ok_invokevirtual M_X5_ends (C := RX5) (T := TX5) (nf := 33) rfl w_1136 w_1138 w_21 w_49 w_1139 ⟨rfl, by decide, by decide, by decide +kernel⟩ (by decide) (by decide) dX5_documents_84 rfl) ?_
  refine tcons (ok_iload_n dX5_documents_87 rfl rfl) ?_
  refine tcons (ok_ireturn rfl dX5_documents_88) ?_
  exact fun _ h => nomatch h
def sp_X5_documents : Spc := fun av s N _ => match av with
  | [.inl (.inr (20, 0)), .inl (.inl v)] => MI s ∧ f2 (isV s v) ((s.2.1 39 0 (cl v) = 0 ∨ s.2.1 39 0 (cl v) = 3) ∧ ¬ dcM s (cl v) ≤ 0 ∧ quietM s v (-1)) (some (aI 0)) N s (N (some (aI (dcM s (cl v)))) (stS (stS (th s 0) 39 0 (cl v) 1) 40 0 (cl v) (s.2.1 20 0 0)))
  | _ => False
set_option maxRecDepth 20000 in
set_option maxHeartbeats 2000000 in
theorem M_X5_documents : AMet yX5_documents cX5_documents 3 (some .int) 2 0 sp_X5_documents := by
  refine AMet.mk (own := RX5) (by decide) rfl [0, 1, 2] rfl tok_X5_documents 200 ?_
  intro av s0 N X h
  unfold sp_X5_documents at h
  split at h
  rotate_left
  · exact h.elim
  refine ⟨fun _ => none, ?_, fun pc P hP => nomatch hP⟩
  repeat' (first | apply And.intro | (intro q; exact absurd q (by decide)) | intro _)
  all_goals first | decide | (exact (rfl : (0 : Nat) = 0)) | (exact Nat.le_of_ble_eq_true rfl) | (exact h.1) | (exact Ib_of (MI_v h.1 (by assumption))) | (simp_all [-Int32.not_le, -Int32.not_lt, f2, stS_get, dcM, hdM, iteP]; done)
theorem dX5_appeal_0 : decode cX5_appeal 0 = .ok (.aload_n 0, 1) := by decide +kernel
theorem dX5_appeal_1 : decode cX5_appeal 1 = .ok (.iload_n 1, 1) := by decide +kernel
theorem dX5_appeal_2 : decode cX5_appeal 2 = .ok (.invokevirtual 179, 3) := by decide +kernel
theorem dX5_appeal_5 : decode cX5_appeal 5 = .ok (.ifCond .eq 54, 3) := by decide +kernel
theorem dX5_appeal_8 : decode cX5_appeal 8 = .ok (.aload_n 0, 1) := by decide +kernel
theorem dX5_appeal_9 : decode cX5_appeal 9 = .ok (.getfield 71, 3) := by decide +kernel
theorem dX5_appeal_12 : decode cX5_appeal 12 = .ok (.iload_n 1, 1) := by decide +kernel
theorem dX5_appeal_13 : decode cX5_appeal 13 = .ok (.iaload, 1) := by decide +kernel
theorem dX5_appeal_14 : decode cX5_appeal 14 = .ok (.iconst 3, 1) := by decide +kernel
theorem dX5_appeal_15 : decode cX5_appeal 15 = .ok (.if_icmp .ne 44, 3) := by decide +kernel
theorem dX5_appeal_18 : decode cX5_appeal 18 = .ok (.aload_n 0, 1) := by decide +kernel
theorem dX5_appeal_19 : decode cX5_appeal 19 = .ok (.getfield 74, 3) := by decide +kernel
theorem dX5_appeal_22 : decode cX5_appeal 22 = .ok (.iload_n 1, 1) := by decide +kernel
theorem dX5_appeal_23 : decode cX5_appeal 23 = .ok (.iaload, 1) := by decide +kernel
theorem dX5_appeal_24 : decode cX5_appeal 24 = .ok (.iconst 1, 1) := by decide +kernel
theorem dX5_appeal_25 : decode cX5_appeal 25 = .ok (.if_icmp .ne 34, 3) := by decide +kernel
theorem dX5_appeal_28 : decode cX5_appeal 28 = .ok (.aload_n 0, 1) := by decide +kernel
theorem dX5_appeal_29 : decode cX5_appeal 29 = .ok (.aload_n 0, 1) := by decide +kernel
theorem dX5_appeal_30 : decode cX5_appeal 30 = .ok (.getfield 65, 3) := by decide +kernel
theorem dX5_appeal_33 : decode cX5_appeal 33 = .ok (.iload_n 1, 1) := by decide +kernel
theorem dX5_appeal_34 : decode cX5_appeal 34 = .ok (.iaload, 1) := by decide +kernel
theorem dX5_appeal_35 : decode cX5_appeal 35 = .ok (.invokevirtual 170, 3) := by decide +kernel
theorem dX5_appeal_38 : decode cX5_appeal 38 = .ok (.ifCond .eq 21, 3) := by decide +kernel
theorem dX5_appeal_41 : decode cX5_appeal 41 = .ok (.aload_n 0, 1) := by decide +kernel
theorem dX5_appeal_42 : decode cX5_appeal 42 = .ok (.aload_n 0, 1) := by decide +kernel
theorem dX5_appeal_43 : decode cX5_appeal 43 = .ok (.getfield 65, 3) := by decide +kernel
theorem dX5_appeal_46 : decode cX5_appeal 46 = .ok (.iload_n 1, 1) := by decide +kernel
theorem dX5_appeal_47 : decode cX5_appeal 47 = .ok (.iaload, 1) := by decide +kernel
theorem dX5_appeal_48 : decode cX5_appeal 48 = .ok (.iload_n 1, 1) := by decide +kernel
theorem dX5_appeal_49 : decode cX5_appeal 49 = .ok (.invokevirtual 167, 3) := by decide +kernel
theorem dX5_appeal_52 : decode cX5_appeal 52 = .ok (.ifCond .eq 7, 3) := by decide +kernel
theorem dX5_appeal_55 : decode cX5_appeal 55 = .ok (.iconst 1, 1) := by decide +kernel
theorem dX5_appeal_56 : decode cX5_appeal 56 = .ok (.goto 4, 3) := by decide +kernel
theorem dX5_appeal_59 : decode cX5_appeal 59 = .ok (.iconst 0, 1) := by decide +kernel
theorem dX5_appeal_60 : decode cX5_appeal 60 = .ok (.istore_n 2, 1) := by decide +kernel
theorem dX5_appeal_61 : decode cX5_appeal 61 = .ok (.aload_n 0, 1) := by decide +kernel
theorem dX5_appeal_62 : decode cX5_appeal 62 = .ok (.aload_n 0, 1) := by decide +kernel
theorem dX5_appeal_63 : decode cX5_appeal 63 = .ok (.iload_n 1, 1) := by decide +kernel
theorem dX5_appeal_64 : decode cX5_appeal 64 = .ok (.invokevirtual 179, 3) := by decide +kernel
theorem dX5_appeal_67 : decode cX5_appeal 67 = .ok (.ifCond .ne 7, 3) := by decide +kernel
theorem dX5_appeal_70 : decode cX5_appeal 70 = .ok (.iconst 1, 1) := by decide +kernel
theorem dX5_appeal_71 : decode cX5_appeal 71 = .ok (.goto 12, 3) := by decide +kernel
theorem dX5_appeal_74 : decode cX5_appeal 74 = .ok (.iload_n 2, 1) := by decide +kernel
theorem dX5_appeal_75 : decode cX5_appeal 75 = .ok (.ifCond .eq 7, 3) := by decide +kernel
theorem dX5_appeal_78 : decode cX5_appeal 78 = .ok (.iconst 0, 1) := by decide +kernel
theorem dX5_appeal_79 : decode cX5_appeal 79 = .ok (.goto 4, 3) := by decide +kernel
theorem dX5_appeal_82 : decode cX5_appeal 82 = .ok (.iconst 2, 1) := by decide +kernel
theorem dX5_appeal_83 : decode cX5_appeal 83 = .ok (.invokevirtual 114, 3) := by decide +kernel
theorem dX5_appeal_86 : decode cX5_appeal 86 = .ok (.ifCond .ne 9, 3) := by decide +kernel
theorem dX5_appeal_89 : decode cX5_appeal 89 = .ok (.aload_n 0, 1) := by decide +kernel
theorem dX5_appeal_90 : decode cX5_appeal 90 = .ok (.iload_n 1, 1) := by decide +kernel
theorem dX5_appeal_91 : decode cX5_appeal 91 = .ok (.iconst 2, 1) := by decide +kernel
theorem dX5_appeal_92 : decode cX5_appeal 92 = .ok (.invokevirtual 195, 3) := by decide +kernel
theorem dX5_appeal_95 : decode cX5_appeal 95 = .ok (.return_, 1) := by decide +kernel
def tab_X5_appeal : List (Nat × Sem) := [(0, op_al 0 1), (1, op_il 1 2), (2, op_callV 7 sp_X5_isCause 2 0 5), (5, op_if (fun x => x = 0) 59 8), (8, op_al 0 9), (9, op_gf 7 24 12), (12, op_il 1 13), (13, op_iald 14), (14, op_ic 3 15), (15, op_cmp (fun x y => ¬ x = y) 59 18), (18, op_al 0 19), (19, op_gf 7 25 22), (22, op_il 1 23), (23, op_iald 24), (24, op_ic 1 25), (25, op_cmp (fun x y => ¬ x = y) 59 28), (28, op_al 0 29), (29, op_al 0 30), (30, op_gf 7 22 33), (33, op_il 1 34), (34, op_iald 35), (35, op_callV 7 sp_X5_isTold 2 0 38), (38, op_if (fun x => x = 0) 59 41), (41, op_al 0 42), (42, op_al 0 43), (43, op_gf 7 22 46), (46, op_il 1 47), (47, op_iald 48), (48, op_il 1 49), (49, op_callV 7 sp_X5_isQuiet 3 0 52), (52, op_if (fun x => x = 0) 59 55), (55, op_ic 1 56), (56, op_go 60), (59, op_ic 0 60), (60, op_is 2 61), (61, op_al 0 62), (62, op_al 0 63), (63, op_il 1 64), (64, op_callV 7 sp_X5_isCause 2 0 67), (67, op_if (fun x => ¬ x = 0) 74 70), (70, op_ic 1 71), (71, op_go 83), (74, op_il 2 75), (75, op_if (fun x => x = 0) 82 78), (78, op_ic 0 79), (79, op_go 83), (82, op_ic 2 83), (83, op_callV 7 sp_X5_fails 2 0 86), (86, op_if (fun x => ¬ x = 0) 95 89), (89, op_al 0 90), (90, op_il 1 91), (91, op_ic 2 92), (92, op_callV 7 sp_X5_opens 3 0 95), (95, op_vret)]
set_option maxRecDepth 20000 in
theorem tok_X5_appeal : ∀ q ∈ tab_X5_appeal, Snd RX5 cX5_appeal 3 2 0 none q.1 q.2 := by
  unfold tab_X5_appeal
  refine tcons (ok_aload_n dX5_appeal_0 rfl rfl) ?_
  refine tcons (ok_iload_n dX5_appeal_1 rfl rfl) ?_
  refine tcons (ok_invokevirtual M_X5_isCause (C := RX5) (T := TX5) (nf := 33) rfl w_1236 w_1238 w_34 w_49 w_1239 ⟨rfl, by decide, by decide, by decide +kernel⟩ (by decide) (by decide) dX5_appeal_2 rfl) ?_
  refine tcons (ok_if_eq dX5_appeal_5 rfl rfl) ?_
  refine tcons (ok_aload_n dX5_appeal_8 rfl rfl) ?_
  refine tcons (ok_getfield (C := RX5) (T := TX5) (n := 33) rfl in_X5 (by decide) w_1017 dX5_appeal_9 rfl) ?_
  refine tcons (ok_iload_n dX5_appeal_12 rfl rfl) ?_
  refine tcons (ok_iaload dX5_appeal_13 rfl) ?_
  refine tcons (ok_iconst dX5_appeal_14 rfl rfl) ?_
  refine tcons (ok_icmp_ne dX5_appeal_15 rfl rfl) ?_
  refine tcons (ok_aload_n dX5_appeal_18 rfl rfl) ?_
  refine tcons (ok_getfield (C := RX5) (T := TX5) (n := 33) rfl in_X5 (by decide) w_1018 dX5_appeal_19 rfl) ?_
  refine tcons (ok_iload_n dX5_appeal_22 rfl rfl) ?_
  refine tcons (ok_iaload dX5_appeal_23 rfl) ?_
  refine tcons (ok_iconst dX5_appeal_24 rfl rfl) ?_
  refine tcons (ok_icmp_ne dX5_appeal_25 rfl rfl) ?_
  refine tcons (ok_aload_n dX5_appeal_28 rfl rfl) ?_
  refine tcons (ok_aload_n dX5_appeal_29 rfl rfl) ?_
  refine tcons (ok_getfield (C := RX5) (T := TX5) (n := 33) rfl in_X5 (by decide) w_1015 dX5_appeal_30 rfl) ?_
  refine tcons (ok_iload_n dX5_appeal_33 rfl rfl) ?_
  refine tcons (ok_iaload dX5_appeal_34 rfl) ?_
  refine tcons (ok_invokevirtual M_X5_isTold (C := RX5) (T := TX5) (nf := 33) rfl w_1217 w_1219 w_32 w_49 w_1220 ⟨rfl, by decide, by decide, by decide +kernel⟩ (by decide) (by decide) dX5_appeal_35 rfl) ?_
  refine tcons (ok_if_eq dX5_appeal_38 rfl rfl) ?_
  refine tcons (ok_aload_n dX5_appeal_41 rfl rfl) ?_
  refine tcons (ok_aload_n dX5_appeal_42 rfl rfl) ?_
  refine tcons (ok_getfield (C := RX5) (T := TX5) (n := 33) rfl in_X5 (by decide) w_1015 dX5_appeal_43 rfl) ?_
  refine tcons (ok_iload_n dX5_appeal_46 rfl rfl) ?_
  refine tcons (ok_iaload dX5_appeal_47 rfl) ?_
  refine tcons (ok_iload_n dX5_appeal_48 rfl rfl) ?_
  refine tcons (ok_invokevirtual M_X5_isQuiet (C := RX5) (T := TX5) (nf := 33) rfl w_1206 w_1208 w_31 w_49 w_1209 ⟨rfl, by decide, by decide, by decide +kernel⟩ (by decide) (by decide) dX5_appeal_49 rfl) ?_
  refine tcons (ok_if_eq dX5_appeal_52 rfl rfl) ?_
  refine tcons (ok_iconst dX5_appeal_55 rfl rfl) ?_
  refine tcons (ok_goto dX5_appeal_56 rfl) ?_
  refine tcons (ok_iconst dX5_appeal_59 rfl rfl) ?_
  refine tcons (ok_istore_n dX5_appeal_60 rfl (by decide) rfl) ?_
  refine tcons (ok_aload_n dX5_appeal_61 rfl rfl) ?_
  refine tcons (ok_aload_n dX5_appeal_62 rfl rfl) ?_
  refine tcons (ok_iload_n dX5_appeal_63 rfl rfl) ?_
  refine tcons (ok_invokevirtual M_X5_isCause (C := RX5) (T := TX5) (nf := 33) rfl w_1236 w_1238 w_34 w_49 w_1239 ⟨rfl, by decide, by decide, by decide +kernel⟩ (by decide) (by decide) dX5_appeal_64 rfl) ?_
  refine tcons (ok_if_ne dX5_appeal_67 rfl rfl) ?_
  refine tcons (ok_iconst dX5_appeal_70 rfl rfl) ?_
  refine tcons (ok_goto dX5_appeal_71 rfl) ?_
  refine tcons (ok_iload_n dX5_appeal_74 rfl rfl) ?_
  refine tcons (ok_if_eq dX5_appeal_75 rfl rfl) ?_
  refine tcons (ok_iconst dX5_appeal_78 rfl rfl) ?_
  refine tcons (ok_goto dX5_appeal_79 rfl) ?_
  refine tcons (ok_iconst dX5_appeal_82 rfl rfl) ?_
  refine tcons (ok_invokevirtual M_X5_fails (C := RX5) (T := TX5) (nf := 33) rfl w_1112 w_1114 w_20 w_49 w_1115 ⟨rfl, by decide, by decide, by decide +kernel⟩ (by decide) (by decide) dX5_appeal_83 rfl) ?_
  refine tcons (ok_if_ne dX5_appeal_86 rfl rfl) ?_
  refine tcons (ok_aload_n dX5_appeal_89 rfl rfl) ?_
  refine tcons (ok_iload_n dX5_appeal_90 rfl rfl) ?_
  refine tcons (ok_iconst dX5_appeal_91 rfl rfl) ?_
  refine tcons (ok_invokevirtual M_X5_opens (C := RX5) (T := TX5) (nf := 33) rfl w_1267 w_1269 w_37 w_49 w_1270 ⟨rfl, by decide, by decide, by decide +kernel⟩ (by decide) (by decide) dX5_appeal_92 rfl) ?_
  refine tcons (ok_vreturn rfl dX5_appeal_95) ?_
  exact fun _ h => nomatch h
def sp_X5_appeal : Spc := fun av s N _ => match av with
  | [.inl (.inr (20, 0)), .inl (.inl c)] => MI s ∧ WI s ∧ f2 (isC s c) (s.2.1 44 0 (cl c) = 3 ∧ s.2.1 45 0 (cl c) = 1 ∧ (s.2.1 39 0 (cl (s.2.1 42 0 (cl c))) = 0 ∨ s.2.1 39 0 (cl (s.2.1 42 0 (cl c))) = 3) ∧ quietM s (s.2.1 42 0 (cl c)) c) none N s
      (N none (stR (stS (stS (stS (th s 0) 44 0 (cl c) 0) 45 0 (cl c) 2) 47 0 (cl c) 0) 48 (3 * cl c) 3 (-1)))
  | _ => False
set_option maxRecDepth 20000 in
set_option maxHeartbeats 2000000 in
theorem M_X5_appeal : AMet yX5_appeal cX5_appeal 3 none 2 0 sp_X5_appeal := by
  refine AMet.mk (own := RX5) (by decide) rfl [0, 1, 2] rfl tok_X5_appeal 200 ?_
  intro av s0 N X h
  unfold sp_X5_appeal at h
  split at h
  rotate_left
  · exact h.elim
  refine ⟨fun _ => none, ?_, fun pc P hP => nomatch hP⟩
  repeat' (first | apply And.intro | (intro q; exact absurd q (by decide)) | intro _)
  all_goals first | decide | (exact (rfl : (0 : Nat) = 0)) | (exact Nat.le_of_ble_eq_true rfl) | (exact h.1) | (exact Ib_of (MI_c h.1 (by assumption))) | (exact WI_c h.1 h.2.1 (by assumption)) | (simp_all [f2, stS_get]; done)
theorem mwt_eq {s s' : Sg} (h : ∀ j, s'.2.1 46 0 j = s.2.1 46 0 j) (c : Nat) : mwt s' c = mwt s c := funext fun g => h _
/-- the grounds proved -/
def prM (s : Sg) (c : Nat) : Int32 := prvR (s.2.1 43 0 c) (mwt s c) 7
theorem dX5_publish_0 : decode cX5_publish 0 = .ok (.aload_n 0, 1) := by decide +kernel
theorem dX5_publish_1 : decode cX5_publish 1 = .ok (.aload_n 0, 1) := by decide +kernel
theorem dX5_publish_2 : decode cX5_publish 2 = .ok (.iload_n 1, 1) := by decide +kernel
theorem dX5_publish_3 : decode cX5_publish 3 = .ok (.invokevirtual 179, 3) := by decide +kernel
theorem dX5_publish_6 : decode cX5_publish 6 = .ok (.ifCond .ne 7, 3) := by decide +kernel
theorem dX5_publish_9 : decode cX5_publish 9 = .ok (.iconst 1, 1) := by decide +kernel
theorem dX5_publish_10 : decode cX5_publish 10 = .ok (.goto 17, 3) := by decide +kernel
theorem dX5_publish_13 : decode cX5_publish 13 = .ok (.aload_n 0, 1) := by decide +kernel
theorem dX5_publish_14 : decode cX5_publish 14 = .ok (.getfield 71, 3) := by decide +kernel
theorem dX5_publish_17 : decode cX5_publish 17 = .ok (.iload_n 1, 1) := by decide +kernel
theorem dX5_publish_18 : decode cX5_publish 18 = .ok (.iaload, 1) := by decide +kernel
theorem dX5_publish_19 : decode cX5_publish 19 = .ok (.ifCond .ne 7, 3) := by decide +kernel
theorem dX5_publish_22 : decode cX5_publish 22 = .ok (.iconst 0, 1) := by decide +kernel
theorem dX5_publish_23 : decode cX5_publish 23 = .ok (.goto 4, 3) := by decide +kernel
theorem dX5_publish_26 : decode cX5_publish 26 = .ok (.iconst 2, 1) := by decide +kernel
theorem dX5_publish_27 : decode cX5_publish 27 = .ok (.invokevirtual 114, 3) := by decide +kernel
theorem dX5_publish_30 : decode cX5_publish 30 = .ok (.ifCond .eq 5, 3) := by decide +kernel
theorem dX5_publish_33 : decode cX5_publish 33 = .ok (.iconst 0, 1) := by decide +kernel
theorem dX5_publish_34 : decode cX5_publish 34 = .ok (.ireturn, 1) := by decide +kernel
theorem dX5_publish_35 : decode cX5_publish 35 = .ok (.aload_n 0, 1) := by decide +kernel
theorem dX5_publish_36 : decode cX5_publish 36 = .ok (.getfield 71, 3) := by decide +kernel
theorem dX5_publish_39 : decode cX5_publish 39 = .ok (.iload_n 1, 1) := by decide +kernel
theorem dX5_publish_40 : decode cX5_publish 40 = .ok (.iconst 1, 1) := by decide +kernel
theorem dX5_publish_41 : decode cX5_publish 41 = .ok (.iastore, 1) := by decide +kernel
theorem dX5_publish_42 : decode cX5_publish 42 = .ok (.aload_n 0, 1) := by decide +kernel
theorem dX5_publish_43 : decode cX5_publish 43 = .ok (.iload_n 1, 1) := by decide +kernel
theorem dX5_publish_44 : decode cX5_publish 44 = .ok (.invokevirtual 185, 3) := by decide +kernel
theorem dX5_publish_47 : decode cX5_publish 47 = .ok (.ireturn, 1) := by decide +kernel
def tab_X5_publish : List (Nat × Sem) := [(0, op_al 0 1), (1, op_al 0 2), (2, op_il 1 3), (3, op_callV 7 sp_X5_isCause 2 0 6), (6, op_if (fun x => ¬ x = 0) 13 9), (9, op_ic 1 10), (10, op_go 27), (13, op_al 0 14), (14, op_gf 7 24 17), (17, op_il 1 18), (18, op_iald 19), (19, op_if (fun x => ¬ x = 0) 26 22), (22, op_ic 0 23), (23, op_go 27), (26, op_ic 2 27), (27, op_callV 7 sp_X5_fails 2 0 30), (30, op_if (fun x => x = 0) 35 33), (33, op_ic 0 34), (34, op_iret), (35, op_al 0 36), (36, op_gf 7 24 39), (39, op_il 1 40), (40, op_ic 1 41), (41, op_iast 42), (42, op_al 0 43), (43, op_il 1 44), (44, op_callV 7 sp_X5_proven 2 0 47), (47, op_iret)]
set_option maxRecDepth 20000 in
theorem tok_X5_publish : ∀ q ∈ tab_X5_publish, Snd RX5 cX5_publish 2 2 0 (some .int) q.1 q.2 := by
  unfold tab_X5_publish
  refine tcons (ok_aload_n dX5_publish_0 rfl rfl) ?_
  refine tcons (ok_aload_n dX5_publish_1 rfl rfl) ?_
  refine tcons (ok_iload_n dX5_publish_2 rfl rfl) ?_
  refine tcons (ok_invokevirtual M_X5_isCause (C := RX5) (T := TX5) (nf := 33) rfl w_1236 w_1238 w_34 w_49 w_1239 ⟨rfl, by decide, by decide, by decide +kernel⟩ (by decide) (by decide) dX5_publish_3 rfl) ?_
  refine tcons (ok_if_ne dX5_publish_6 rfl rfl) ?_
  refine tcons (ok_iconst dX5_publish_9 rfl rfl) ?_
  refine tcons (ok_goto dX5_publish_10 rfl) ?_
  refine tcons (ok_aload_n dX5_publish_13 rfl rfl) ?_
  refine tcons (ok_getfield (C := RX5) (T := TX5) (n := 33) rfl in_X5 (by decide) w_1017 dX5_publish_14 rfl) ?_
  refine tcons (ok_iload_n dX5_publish_17 rfl rfl) ?_
  refine tcons (ok_iaload dX5_publish_18 rfl) ?_
  refine tcons (ok_if_ne dX5_publish_19 rfl rfl) ?_
  refine tcons (ok_iconst dX5_publish_22 rfl rfl) ?_
  refine tcons (ok_goto dX5_publish_23 rfl) ?_
  refine tcons (ok_iconst dX5_publish_26 rfl rfl) ?_
  refine tcons (ok_invokevirtual M_X5_fails (C := RX5) (T := TX5) (nf := 33) rfl w_1112 w_1114 w_20 w_49 w_1115 ⟨rfl, by decide, by decide, by decide +kernel⟩ (by decide) (by decide) dX5_publish_27 rfl) ?_
  refine tcons (ok_if_eq dX5_publish_30 rfl rfl) ?_
  refine tcons (ok_iconst dX5_publish_33 rfl rfl) ?_
  refine tcons (ok_ireturn rfl dX5_publish_34) ?_
  refine tcons (ok_aload_n dX5_publish_35 rfl rfl) ?_
  refine tcons (ok_getfield (C := RX5) (T := TX5) (n := 33) rfl in_X5 (by decide) w_1017 dX5_publish_36 rfl) ?_
  refine tcons (ok_iload_n dX5_publish_39 rfl rfl) ?_
  refine tcons (ok_iconst dX5_publish_40 rfl rfl) ?_
  refine tcons (ok_iastore dX5_publish_41 rfl) ?_
  refine tcons (ok_aload_n dX5_publish_42 rfl rfl) ?_
  refine tcons (ok_iload_n dX5_publish_43 rfl rfl) ?_
  refine tcons (ok_invokevirtual M_X5_proven (C := RX5) (T := TX5) (nf := 33) rfl w_1251 w_1253 w_35 w_49 w_1254 ⟨rfl, by decide, by decide, by decide +kernel⟩ (by decide) (by decide) dX5_publish_44 rfl) ?_
  refine tcons (ok_ireturn rfl dX5_publish_47) ?_
  exact fun _ h => nomatch h
def sp_X5_publish : Spc := fun av s N _ => match av with
  | [.inl (.inr (20, 0)), .inl (.inl c)] => MI s ∧ f2 (isC s c) (s.2.1 44 0 (cl c) = 0) (some (aI 0)) N s (N (some (aI (prM s (cl c)))) (stS (th s 0) 44 0 (cl c) 1))
  | _ => False
theorem prM_1 {s : Sg} {c i : Nat} {k : Int32} : prvR ((stS (th s 0) 44 0 i k).2.1 43 0 c) (mwt (stS (th s 0) 44 0 i k) c) 7 = prM s c := by
  rw [mwt_eq (s := s) (fun j => by simp [stS_get])]; simp [prM, stS_get]
set_option maxRecDepth 20000 in
set_option maxHeartbeats 2000000 in
theorem M_X5_publish : AMet yX5_publish cX5_publish 2 (some .int) 2 0 sp_X5_publish := by
  refine AMet.mk (own := RX5) (by decide) rfl [0, 1] rfl tok_X5_publish 200 ?_
  intro av s0 N X h
  unfold sp_X5_publish at h
  split at h
  rotate_left
  · exact h.elim
  refine ⟨fun _ => none, ?_, fun pc P hP => nomatch hP⟩
  repeat' (first | apply And.intro | (intro q; exact absurd q (by decide)) | intro _)
  all_goals first | decide | (exact (rfl : (0 : Nat) = 0)) | (exact Nat.le_of_ble_eq_true rfl) | (exact Ib_of (MI_c h.1 (by assumption))) | (simp_all [f2, prM_1]; done)

