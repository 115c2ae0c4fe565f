/-! the law's helpers -/
theorem dL_heal_0 : decode cL_heal 0 = .ok (.aload_n 0, 1) := by decide +kernel
theorem dL_heal_1 : decode cL_heal 1 = .ok (.iload_n 1, 1) := by decide +kernel
theorem dL_heal_2 : decode cL_heal 2 = .ok (.invokevirtual 51, 3) := by decide +kernel
theorem dL_heal_5 : decode cL_heal 5 = .ok (.goto 9, 3) := by decide +kernel
theorem dL_heal_8 : decode cL_heal 8 = .ok (.astore_n 2, 1) := by decide +kernel
theorem dL_heal_9 : decode cL_heal 9 = .ok (.iconst 1, 1) := by decide +kernel
theorem dL_heal_10 : decode cL_heal 10 = .ok (.ireturn, 1) := by decide +kernel
theorem dL_heal_11 : decode cL_heal 11 = .ok (.astore_n 2, 1) := by decide +kernel
theorem dL_heal_12 : decode cL_heal 12 = .ok (.iconst 2, 1) := by decide +kernel
theorem dL_heal_13 : decode cL_heal 13 = .ok (.ireturn, 1) := by decide +kernel
theorem dL_heal_14 : decode cL_heal 14 = .ok (.iconst 0, 1) := by decide +kernel
theorem dL_heal_15 : decode cL_heal 15 = .ok (.ireturn, 1) := by decide +kernel
def hs_L_heal : List HE := [(1, 13, 8, 2, 9), (3, 17, 11, 2, 12)]
theorem hok_L_heal : ∀ h ∈ hs_L_heal, HOk RL cL_heal 3 h := ac (⟨⟨by decide, by decide⟩, by decide, w_151, w_xc1, by decide, Or.inl ⟨2, dL_heal_8, rfl, rfl⟩⟩) (ac (⟨⟨by decide, by decide⟩, by decide, w_153, w_xc3, by decide, Or.inl ⟨2, dL_heal_11, rfl, rfl⟩⟩) (an))
def tab_L_heal : List (Nat × Sem) := [(0, op_al 0 1), (1, op_il 1 2), (2, op_callHV 6 sp_X4_heal 2 3 5 hs_L_heal), (5, op_go 14), (9, op_ic 1 10), (10, op_iret), (12, op_ic 2 13), (13, op_iret), (14, op_ic 0 15), (15, op_iret)]
set_option maxRecDepth 20000 in
theorem tok_L_heal : ∀ q ∈ tab_L_heal, HGSnd (hTab 5 hs_L_heal) RL cL_heal 3 10 3 (some .int) q.1 q.2 := by
  unfold tab_L_heal
  refine hcons (hsnd_g (hk_aload_n dL_heal_0 rfl rfl)) ?_
  refine hcons (hsnd_g (hk_iload_n dL_heal_1 rfl rfl)) ?_
  refine hcons (hsnd_g (hk_invokevirtual M_X4_heal hok_L_heal (by decide) (C := RX4) (T := TX4) (nf := 8) rfl w_541 w_542 w_543 w_43 w_544 ⟨rfl, by decide, by decide, by decide +kernel⟩ (by decide) (by decide) dL_heal_2 rfl)) ?_
  refine hcons (hsnd_g (hk_goto dL_heal_5 rfl)) ?_
  refine hcons (hsnd_g (hk_iconst dL_heal_9 rfl rfl)) ?_
  refine hcons (hsnd_g (hk_ireturn rfl dL_heal_10)) ?_
  refine hcons (hsnd_g (hk_iconst dL_heal_12 rfl rfl)) ?_
  refine hcons (hsnd_g (hk_ireturn rfl dL_heal_13)) ?_
  refine hcons (hsnd_g (hk_iconst dL_heal_14 rfl rfl)) ?_
  refine hcons (hsnd_g (hk_ireturn rfl dL_heal_15)) ?_
  exact fun _ h => nomatch h
def sp_L_heal : Spc := fun av s N _ => match av with
  | [.inl (.inr (1, 0)), .inl (.inl p0)] => Lv s 60 0 ∧ sp_X4_heal [aR 1 0, aI p0] s (hNv N) (hX hs_L_heal N)
  | _ => False
set_option maxRecDepth 20000 in
set_option maxHeartbeats 1000000 in
theorem M_L_heal : HMet yL_heal cL_heal 3 (some .int) (hTab 5 hs_L_heal) 10 3 sp_L_heal := by
  refine HMet.mk (own := RL) (by decide) rfl [0, 1, 2] rfl tok_L_heal 60 ?_
  intro av s0 N h
  unfold sp_L_heal at h
  split at h
  rotate_left
  · exact h.elim
  obtain ⟨h60, h⟩ := h
  refine ⟨rfl, by decide, Nat.le_of_ble_eq_true rfl, _, _, h, ?_, ?_⟩
  · intro r s1 hN
    unfold hNv at hN
    split at hN
    · exact ⟨Nat.le_of_ble_eq_true rfl, hN⟩
    · exact hN.elim
  · intro x s1 hX1
    by_cases q1 : x = 1
    · subst q1
      exact ⟨Nat.le_of_ble_eq_true rfl, hX1⟩
    by_cases q3 : x = 3
    · subst q3
      exact ⟨Nat.le_of_ble_eq_true rfl, hX1⟩
    simp [hX, hs_L_heal, hix, Ne.symm q1, Ne.symm q3] at hX1
theorem dL_grace_0 : decode cL_grace 0 = .ok (.aload_n 0, 1) := by decide +kernel
theorem dL_grace_1 : decode cL_grace 1 = .ok (.iload_n 1, 1) := by decide +kernel
theorem dL_grace_2 : decode cL_grace 2 = .ok (.invokevirtual 54, 3) := by decide +kernel
theorem dL_grace_5 : decode cL_grace 5 = .ok (.goto 9, 3) := by decide +kernel
theorem dL_grace_8 : decode cL_grace 8 = .ok (.astore_n 2, 1) := by decide +kernel
theorem dL_grace_9 : decode cL_grace 9 = .ok (.iconst 1, 1) := by decide +kernel
theorem dL_grace_10 : decode cL_grace 10 = .ok (.ireturn, 1) := by decide +kernel
theorem dL_grace_11 : decode cL_grace 11 = .ok (.astore_n 2, 1) := by decide +kernel
theorem dL_grace_12 : decode cL_grace 12 = .ok (.iconst 2, 1) := by decide +kernel
theorem dL_grace_13 : decode cL_grace 13 = .ok (.ireturn, 1) := by decide +kernel
theorem dL_grace_14 : decode cL_grace 14 = .ok (.iconst 0, 1) := by decide +kernel
theorem dL_grace_15 : decode cL_grace 15 = .ok (.ireturn, 1) := by decide +kernel
def hs_L_grace : List HE := [(1, 13, 8, 2, 9), (3, 17, 11, 2, 12)]
theorem hok_L_grace : ∀ h ∈ hs_L_grace, HOk RL cL_grace 3 h := ac (⟨⟨by decide, by decide⟩, by decide, w_151, w_xc1, by decide, Or.inl ⟨2, dL_grace_8, rfl, rfl⟩⟩) (ac (⟨⟨by decide, by decide⟩, by decide, w_153, w_xc3, by decide, Or.inl ⟨2, dL_grace_11, rfl, rfl⟩⟩) (an))
def tab_L_grace : List (Nat × Sem) := [(0, op_al 0 1), (1, op_il 1 2), (2, op_callHV 6 sp_X4_grace 2 2 5 hs_L_grace), (5, op_go 14), (9, op_ic 1 10), (10, op_iret), (12, op_ic 2 13), (13, op_iret), (14, op_ic 0 15), (15, op_iret)]
set_option maxRecDepth 20000 in
theorem tok_L_grace : ∀ q ∈ tab_L_grace, HGSnd (hTab 5 hs_L_grace) RL cL_grace 3 9 2 (some .int) q.1 q.2 := by
  unfold tab_L_grace
  refine hcons (hsnd_g (hk_aload_n dL_grace_0 rfl rfl)) ?_
  refine hcons (hsnd_g (hk_iload_n dL_grace_1 rfl rfl)) ?_
  refine hcons (hsnd_g (hk_invokevirtual M_X4_grace hok_L_grace (by decide) (C := RX4) (T := TX4) (nf := 8) rfl w_564 w_565 w_566 w_43 w_567 ⟨rfl, by decide, by decide, by decide +kernel⟩ (by decide) (by decide) dL_grace_2 rfl)) ?_
  refine hcons (hsnd_g (hk_goto dL_grace_5 rfl)) ?_
  refine hcons (hsnd_g (hk_iconst dL_grace_9 rfl rfl)) ?_
  refine hcons (hsnd_g (hk_ireturn rfl dL_grace_10)) ?_
  refine hcons (hsnd_g (hk_iconst dL_grace_12 rfl rfl)) ?_
  refine hcons (hsnd_g (hk_ireturn rfl dL_grace_13)) ?_
  refine hcons (hsnd_g (hk_iconst dL_grace_14 rfl rfl)) ?_
  refine hcons (hsnd_g (hk_ireturn rfl dL_grace_15)) ?_
  exact fun _ h => nomatch h
def sp_L_grace : Spc := fun av s N _ => match av with
  | [.inl (.inr (1, 0)), .inl (.inl p0)] => Lv s 60 0 ∧ sp_X4_grace [aR 1 0, aI p0] s (hNv N) (hX hs_L_grace N)
  | _ => False
set_option maxRecDepth 20000 in
set_option maxHeartbeats 1000000 in
theorem M_L_grace : HMet yL_grace cL_grace 3 (some .int) (hTab 5 hs_L_grace) 9 2 sp_L_grace := by
  refine HMet.mk (own := RL) (by decide) rfl [0, 1, 2] rfl tok_L_grace 60 ?_
  intro av s0 N h
  unfold sp_L_grace at h
  split at h
  rotate_left
  · exact h.elim
  obtain ⟨h60, h⟩ := h
  refine ⟨rfl, by decide, Nat.le_of_ble_eq_true rfl, _, _, h, ?_, ?_⟩
  · intro r s1 hN
    unfold hNv at hN
    split at hN
    · exact ⟨Nat.le_of_ble_eq_true rfl, hN⟩
    · exact hN.elim
  · intro x s1 hX1
    by_cases q1 : x = 1
    · subst q1
      exact ⟨Nat.le_of_ble_eq_true rfl, hX1⟩
    by_cases q3 : x = 3
    · subst q3
      exact ⟨Nat.le_of_ble_eq_true rfl, hX1⟩
    simp [hX, hs_L_grace, hix, Ne.symm q1, Ne.symm q3] at hX1
theorem dL_documents_0 : decode cL_documents 0 = .ok (.aload_n 2, 1) := by decide +kernel
theorem dL_documents_1 : decode cL_documents 1 = .ok (.iconst 0, 1) := by decide +kernel
theorem dL_documents_2 : decode cL_documents 2 = .ok (.aload_n 0, 1) := by decide +kernel
theorem dL_documents_3 : decode cL_documents 3 = .ok (.iload_n 1, 1) := by decide +kernel
theorem dL_documents_4 : decode cL_documents 4 = .ok (.invokevirtual 57, 3) := by decide +kernel
theorem dL_documents_7 : decode cL_documents 7 = .ok (.i2l, 1) := by decide +kernel
theorem dL_documents_8 : decode cL_documents 8 = .ok (.lastore, 1) := by decide +kernel
theorem dL_documents_9 : decode cL_documents 9 = .ok (.goto 9, 3) := by decide +kernel
theorem dL_documents_12 : decode cL_documents 12 = .ok (.astore_n 3, 1) := by decide +kernel
theorem dL_documents_13 : decode cL_documents 13 = .ok (.iconst 1, 1) := by decide +kernel
theorem dL_documents_14 : decode cL_documents 14 = .ok (.ireturn, 1) := by decide +kernel
theorem dL_documents_15 : decode cL_documents 15 = .ok (.astore_n 3, 1) := by decide +kernel
theorem dL_documents_16 : decode cL_documents 16 = .ok (.iconst 2, 1) := by decide +kernel
theorem dL_documents_17 : decode cL_documents 17 = .ok (.ireturn, 1) := by decide +kernel
theorem dL_documents_18 : decode cL_documents 18 = .ok (.iconst 0, 1) := by decide +kernel
theorem dL_documents_19 : decode cL_documents 19 = .ok (.ireturn, 1) := by decide +kernel
def hs_L_documents : List HE := [(1, 13, 12, 3, 13), (3, 17, 15, 3, 16)]
theorem hok_L_documents : ∀ h ∈ hs_L_documents, HOk RL cL_documents 4 h := ac (⟨⟨by decide, by decide⟩, by decide, w_151, w_xc1, by decide, Or.inl ⟨3, dL_documents_12, rfl, rfl⟩⟩) (ac (⟨⟨by decide, by decide⟩, by decide, w_153, w_xc3, by decide, Or.inl ⟨3, dL_documents_15, rfl, rfl⟩⟩) (an))
def tab_L_documents : List (Nat × Sem) := [(0, op_al 2 1), (1, op_ic 0 2), (2, op_al 0 3), (3, op_il 1 4), (4, op_callHV 6 sp_X4_documents 2 4 7 hs_L_documents), (7, op_i2l 8), (8, op_last 9), (9, op_go 18), (13, op_ic 1 14), (14, op_iret), (16, op_ic 2 17), (17, op_iret), (18, op_ic 0 19), (19, op_iret)]
set_option maxRecDepth 20000 in
theorem tok_L_documents : ∀ q ∈ tab_L_documents, HGSnd (hTab 9 hs_L_documents) RL cL_documents 4 10 4 (some .int) q.1 q.2 := by
  unfold tab_L_documents
  refine hcons (hsnd_g (hk_aload_n dL_documents_0 rfl rfl)) ?_
  refine hcons (hsnd_g (hk_iconst dL_documents_1 rfl rfl)) ?_
  refine hcons (hsnd_g (hk_aload_n dL_documents_2 rfl rfl)) ?_
  refine hcons (hsnd_g (hk_iload_n dL_documents_3 rfl rfl)) ?_
  refine hcons (hsnd_g (hk_invokevirtual M_X4_documents hok_L_documents (by decide) (C := RX4) (T := TX4) (nf := 8) rfl w_580 w_581 w_582 w_43 w_583 ⟨rfl, by decide, by decide, by decide +kernel⟩ (by decide) (by decide) dL_documents_4 rfl)) ?_
  refine hcons (hsnd_g (hk_i2l dL_documents_7 rfl)) ?_
  refine hcons (hsnd_g (hk_lastore dL_documents_8 rfl)) ?_
  refine hcons (hsnd_g (hk_goto dL_documents_9 rfl)) ?_
  refine hcons (hsnd_g (hk_iconst dL_documents_13 rfl rfl)) ?_
  refine hcons (hsnd_g (hk_ireturn rfl dL_documents_14)) ?_
  refine hcons (hsnd_g (hk_iconst dL_documents_16 rfl rfl)) ?_
  refine hcons (hsnd_g (hk_ireturn rfl dL_documents_17)) ?_
  refine hcons (hsnd_g (hk_iconst dL_documents_18 rfl rfl)) ?_
  refine hcons (hsnd_g (hk_ireturn rfl dL_documents_19)) ?_
  exact fun _ h => nomatch h
def sp_L_documents : Spc := fun av s N _ => match av with
  | [.inl (.inr (1, 0)), .inl (.inl p0), .inl (.inr (60, 0))] => Lv s 60 0 ∧ sp_X4_documents [aR 1 0, aI p0] s (hNi N) (hX hs_L_documents N)
  | _ => False
set_option maxRecDepth 20000 in
set_option maxHeartbeats 1000000 in
theorem M_L_documents : HMet yL_documents cL_documents 4 (some .int) (hTab 9 hs_L_documents) 10 4 sp_L_documents := by
  refine HMet.mk (own := RL) (by decide) rfl [0, 1, 2, 3] rfl tok_L_documents 60 ?_
  intro av s0 N h
  unfold sp_L_documents at h
  split at h
  rotate_left
  · exact h.elim
  obtain ⟨h60, h⟩ := h
  refine ⟨rfl, by decide, Nat.le_of_ble_eq_true rfl, _, _, h, ?_, ?_⟩
  · intro r s1 hN
    unfold hNi at hN
    split at hN
    · exact ⟨h60, ib01, Nat.le_of_ble_eq_true rfl, hN⟩
    · exact hN.elim
  · intro x s1 hX1
    by_cases q1 : x = 1
    · subst q1
      exact ⟨Nat.le_of_ble_eq_true rfl, hX1⟩
    by_cases q3 : x = 3
    · subst q3
      exact ⟨Nat.le_of_ble_eq_true rfl, hX1⟩
    simp [hX, hs_L_documents, hix, Ne.symm q1, Ne.symm q3] at hX1
theorem dL_cause_0 : decode cL_cause 0 = .ok (.aload 5, 2) := by decide +kernel
theorem dL_cause_2 : decode cL_cause 2 = .ok (.iconst 0, 1) := by decide +kernel
theorem dL_cause_3 : decode cL_cause 3 = .ok (.aload_n 0, 1) := by decide +kernel
theorem dL_cause_4 : decode cL_cause 4 = .ok (.iload_n 1, 1) := by decide +kernel
theorem dL_cause_5 : decode cL_cause 5 = .ok (.iload_n 2, 1) := by decide +kernel
theorem dL_cause_6 : decode cL_cause 6 = .ok (.iload_n 3, 1) := by decide +kernel
theorem dL_cause_7 : decode cL_cause 7 = .ok (.iload 4, 2) := by decide +kernel
theorem dL_cause_9 : decode cL_cause 9 = .ok (.invokevirtual 60, 3) := by decide +kernel
theorem dL_cause_12 : decode cL_cause 12 = .ok (.i2l, 1) := by decide +kernel
theorem dL_cause_13 : decode cL_cause 13 = .ok (.lastore, 1) := by decide +kernel
theorem dL_cause_14 : decode cL_cause 14 = .ok (.goto 15, 3) := by decide +kernel
theorem dL_cause_17 : decode cL_cause 17 = .ok (.astore 6, 2) := by decide +kernel
theorem dL_cause_19 : decode cL_cause 19 = .ok (.iconst 1, 1) := by decide +kernel
theorem dL_cause_20 : decode cL_cause 20 = .ok (.ireturn, 1) := by decide +kernel
theorem dL_cause_21 : decode cL_cause 21 = .ok (.astore 6, 2) := by decide +kernel
theorem dL_cause_23 : decode cL_cause 23 = .ok (.iconst 2, 1) := by decide +kernel
theorem dL_cause_24 : decode cL_cause 24 = .ok (.ireturn, 1) := by decide +kernel
theorem dL_cause_25 : decode cL_cause 25 = .ok (.astore 6, 2) := by decide +kernel
theorem dL_cause_27 : decode cL_cause 27 = .ok (.iconst 3, 1) := by decide +kernel
theorem dL_cause_28 : decode cL_cause 28 = .ok (.ireturn, 1) := by decide +kernel
theorem dL_cause_29 : decode cL_cause 29 = .ok (.iconst 0, 1) := by decide +kernel
theorem dL_cause_30 : decode cL_cause 30 = .ok (.ireturn, 1) := by decide +kernel
def hs_L_cause : List HE := [(1, 13, 17, 6, 19), (2, 15, 21, 6, 23), (3, 17, 25, 6, 27)]
theorem hok_L_cause : ∀ h ∈ hs_L_cause, HOk RL cL_cause 7 h := ac (⟨⟨by decide, by decide⟩, by decide, w_151, w_xc1, by decide, Or.inr ⟨dL_cause_17, rfl⟩⟩) (ac (⟨⟨by decide, by decide⟩, by decide, w_152, w_xc2, by decide, Or.inr ⟨dL_cause_21, rfl⟩⟩) (ac (⟨⟨by decide, by decide⟩, by decide, w_153, w_xc3, by decide, Or.inr ⟨dL_cause_25, rfl⟩⟩) (an)))
def tab_L_cause : List (Nat × Sem) := [(0, op_al 5 2), (2, op_ic 0 3), (3, op_al 0 4), (4, op_il 1 5), (5, op_il 2 6), (6, op_il 3 7), (7, op_il 4 9), (9, op_callHGV 6 sp_X4_cause 5 16 12 hs_L_cause), (12, op_i2l 13), (13, op_last 14), (14, op_go 29), (19, op_ic 1 20), (20, op_iret), (23, op_ic 2 24), (24, op_iret), (27, op_ic 3 28), (28, op_iret), (29, op_ic 0 30), (30, op_iret)]
set_option maxRecDepth 20000 in
theorem tok_L_cause : ∀ q ∈ tab_L_cause, HGSnd (hTab 14 hs_L_cause) RL cL_cause 7 11 16 (some .int) q.1 q.2 := by
  unfold tab_L_cause
  refine hcons (hsnd_g (hk_aload dL_cause_0 rfl)) ?_
  refine hcons (hsnd_g (hk_iconst dL_cause_2 rfl rfl)) ?_
  refine hcons (hsnd_g (hk_aload_n dL_cause_3 rfl rfl)) ?_
  refine hcons (hsnd_g (hk_iload_n dL_cause_4 rfl rfl)) ?_
  refine hcons (hsnd_g (hk_iload_n dL_cause_5 rfl rfl)) ?_
  refine hcons (hsnd_g (hk_iload_n dL_cause_6 rfl rfl)) ?_
  refine hcons (hsnd_g (hk_iload dL_cause_7 rfl)) ?_
  refine hcons (hk_invokevirtualG M_X4_cause hok_L_cause (by decide) (C := RX4) (T := TX4) (nf := 8) rfl w_591 w_592 w_593 w_43 w_594 ⟨rfl, by decide, by decide, by decide +kernel⟩ (by decide) (by decide) dL_cause_9 rfl) ?_
  refine hcons (hsnd_g (hk_i2l dL_cause_12 rfl)) ?_
  refine hcons (hsnd_g (hk_lastore dL_cause_13 rfl)) ?_
  refine hcons (hsnd_g (hk_goto dL_cause_14 rfl)) ?_
  refine hcons (hsnd_g (hk_iconst dL_cause_19 rfl rfl)) ?_
  refine hcons (hsnd_g (hk_ireturn rfl dL_cause_20)) ?_
  refine hcons (hsnd_g (hk_iconst dL_cause_23 rfl rfl)) ?_
  refine hcons (hsnd_g (hk_ireturn rfl dL_cause_24)) ?_
  refine hcons (hsnd_g (hk_iconst dL_cause_27 rfl rfl)) ?_
  refine hcons (hsnd_g (hk_ireturn rfl dL_cause_28)) ?_
  refine hcons (hsnd_g (hk_iconst dL_cause_29 rfl rfl)) ?_
  refine hcons (hsnd_g (hk_ireturn rfl dL_cause_30)) ?_
  exact fun _ h => nomatch h
def sp_L_cause : Spc := fun av s N _ => match av with
  | [.inl (.inr (1, 0)), .inl (.inl p0), .inl (.inl p1), .inl (.inl p2), .inl (.inl p3), .inl (.inr (60, 0))] => Lv s 60 0 ∧ sp_X4_cause [aR 1 0, aI p0, aI p1, aI p2, aI p3] s (hNi N) (hX hs_L_cause N)
  | _ => False
set_option maxRecDepth 20000 in
set_option maxHeartbeats 1000000 in
theorem M_L_cause : HMet yL_cause cL_cause 7 (some .int) (hTab 14 hs_L_cause) 11 16 sp_L_cause := by
  refine HMet.mk (own := RL) (by decide) rfl [0, 1, 2, 3, 4, 5, 6] rfl tok_L_cause 60 ?_
  intro av s0 N h
  unfold sp_L_cause at h
  split at h
  rotate_left
  · exact h.elim
  obtain ⟨h60, h⟩ := h
  refine ⟨rfl, by decide, Nat.le_of_ble_eq_true rfl, ⟨rfl, trivial⟩, rfl, rfl, _, _, h, ?_, ?_⟩
  · intro r s1 hN
    unfold hNi at hN
    split at hN
    · exact ⟨h60, ib01, Nat.le_of_ble_eq_true rfl, hN⟩
    · exact hN.elim
  · intro x s1 hX1
    by_cases q1 : x = 1
    · subst q1
      exact ⟨Nat.le_of_ble_eq_true rfl, hX1⟩
    by_cases q2 : x = 2
    · subst q2
      exact ⟨Nat.le_of_ble_eq_true rfl, hX1⟩
    by_cases q3 : x = 3
    · subst q3
      exact ⟨Nat.le_of_ble_eq_true rfl, hX1⟩
    simp [hX, hs_L_cause, hix, Ne.symm q1, Ne.symm q2, Ne.symm q3] at hX1
theorem dL_doubt_0 : decode cL_doubt 0 = .ok (.aload_n 3, 1) := by decide +kernel
theorem dL_doubt_1 : decode cL_doubt 1 = .ok (.iconst 0, 1) := by decide +kernel
theorem dL_doubt_2 : decode cL_doubt 2 = .ok (.aload_n 0, 1) := by decide +kernel
theorem dL_doubt_3 : decode cL_doubt 3 = .ok (.iload_n 1, 1) := by decide +kernel
theorem dL_doubt_4 : decode cL_doubt 4 = .ok (.iload_n 2, 1) := by decide +kernel
theorem dL_doubt_5 : decode cL_doubt 5 = .ok (.invokevirtual 64, 3) := by decide +kernel
theorem dL_doubt_8 : decode cL_doubt 8 = .ok (.i2l, 1) := by decide +kernel
theorem dL_doubt_9 : decode cL_doubt 9 = .ok (.lastore, 1) := by decide +kernel
theorem dL_doubt_10 : decode cL_doubt 10 = .ok (.goto 15, 3) := by decide +kernel
theorem dL_doubt_13 : decode cL_doubt 13 = .ok (.astore 4, 2) := by decide +kernel
theorem dL_doubt_15 : decode cL_doubt 15 = .ok (.iconst 1, 1) := by decide +kernel
theorem dL_doubt_16 : decode cL_doubt 16 = .ok (.ireturn, 1) := by decide +kernel
theorem dL_doubt_17 : decode cL_doubt 17 = .ok (.astore 4, 2) := by decide +kernel
theorem dL_doubt_19 : decode cL_doubt 19 = .ok (.iconst 2, 1) := by decide +kernel
theorem dL_doubt_20 : decode cL_doubt 20 = .ok (.ireturn, 1) := by decide +kernel
theorem dL_doubt_21 : decode cL_doubt 21 = .ok (.astore 4, 2) := by decide +kernel
theorem dL_doubt_23 : decode cL_doubt 23 = .ok (.iconst 3, 1) := by decide +kernel
theorem dL_doubt_24 : decode cL_doubt 24 = .ok (.ireturn, 1) := by decide +kernel
theorem dL_doubt_25 : decode cL_doubt 25 = .ok (.iconst 0, 1) := by decide +kernel
theorem dL_doubt_26 : decode cL_doubt 26 = .ok (.ireturn, 1) := by decide +kernel
def hs_L_doubt : List HE := [(1, 13, 13, 4, 15), (2, 15, 17, 4, 19), (3, 17, 21, 4, 23)]
theorem hok_L_doubt : ∀ h ∈ hs_L_doubt, HOk RL cL_doubt 5 h := ac (⟨⟨by decide, by decide⟩, by decide, w_151, w_xc1, by decide, Or.inr ⟨dL_doubt_13, rfl⟩⟩) (ac (⟨⟨by decide, by decide⟩, by decide, w_152, w_xc2, by decide, Or.inr ⟨dL_doubt_17, rfl⟩⟩) (ac (⟨⟨by decide, by decide⟩, by decide, w_153, w_xc3, by decide, Or.inr ⟨dL_doubt_21, rfl⟩⟩) (an)))
def tab_L_doubt : List (Nat × Sem) := [(0, op_al 3 1), (1, op_ic 0 2), (2, op_al 0 3), (3, op_il 1 4), (4, op_il 2 5), (5, op_callHV 6 sp_X4_doubt 3 3 8 hs_L_doubt), (8, op_i2l 9), (9, op_last 10), (10, op_go 25), (15, op_ic 1 16), (16, op_iret), (19, op_ic 2 20), (20, op_iret), (23, op_ic 3 24), (24, op_iret), (25, op_ic 0 26), (26, op_iret)]
set_option maxRecDepth 20000 in
theorem tok_L_doubt : ∀ q ∈ tab_L_doubt, HGSnd (hTab 10 hs_L_doubt) RL cL_doubt 5 9 3 (some .int) q.1 q.2 := by
  unfold tab_L_doubt
  refine hcons (hsnd_g (hk_aload_n dL_doubt_0 rfl rfl)) ?_
  refine hcons (hsnd_g (hk_iconst dL_doubt_1 rfl rfl)) ?_
  refine hcons (hsnd_g (hk_aload_n dL_doubt_2 rfl rfl)) ?_
  refine hcons (hsnd_g (hk_iload_n dL_doubt_3 rfl rfl)) ?_
  refine hcons (hsnd_g (hk_iload_n dL_doubt_4 rfl rfl)) ?_
  refine hcons (hsnd_g (hk_invokevirtual M_X4_doubt hok_L_doubt (by decide) (C := RX4) (T := TX4) (nf := 8) rfl w_644 w_645 w_646 w_43 w_647 ⟨rfl, by decide, by decide, by decide +kernel⟩ (by decide) (by decide) dL_doubt_5 rfl)) ?_
  refine hcons (hsnd_g (hk_i2l dL_doubt_8 rfl)) ?_
  refine hcons (hsnd_g (hk_lastore dL_doubt_9 rfl)) ?_
  refine hcons (hsnd_g (hk_goto dL_doubt_10 rfl)) ?_
  refine hcons (hsnd_g (hk_iconst dL_doubt_15 rfl rfl)) ?_
  refine hcons (hsnd_g (hk_ireturn rfl dL_doubt_16)) ?_
  refine hcons (hsnd_g (hk_iconst dL_doubt_19 rfl rfl)) ?_
  refine hcons (hsnd_g (hk_ireturn rfl dL_doubt_20)) ?_
  refine hcons (hsnd_g (hk_iconst dL_doubt_23 rfl rfl)) ?_
  refine hcons (hsnd_g (hk_ireturn rfl dL_doubt_24)) ?_
  refine hcons (hsnd_g (hk_iconst dL_doubt_25 rfl rfl)) ?_
  refine hcons (hsnd_g (hk_ireturn rfl dL_doubt_26)) ?_
  exact fun _ h => nomatch h
def sp_L_doubt : Spc := fun av s N _ => match av with
  | [.inl (.inr (1, 0)), .inl (.inl p0), .inl (.inl p1), .inl (.inr (60, 0))] => Lv s 60 0 ∧ sp_X4_doubt [aR 1 0, aI p0, aI p1] s (hNi N) (hX hs_L_doubt N)
  | _ => False
set_option maxRecDepth 20000 in
set_option maxHeartbeats 1000000 in
theorem M_L_doubt : HMet yL_doubt cL_doubt 5 (some .int) (hTab 10 hs_L_doubt) 9 3 sp_L_doubt := by
  refine HMet.mk (own := RL) (by decide) rfl [0, 1, 2, 3, 4] rfl tok_L_doubt 60 ?_
  intro av s0 N h
  unfold sp_L_doubt at h
  split at h
  rotate_left
  · exact h.elim
  obtain ⟨h60, h⟩ := h
  refine ⟨rfl, by decide, Nat.le_of_ble_eq_true rfl, _, _, h, ?_, ?_⟩
  · intro r s1 hN
    unfold hNi at hN
    split at hN
    · exact ⟨h60, ib01, Nat.le_of_ble_eq_true rfl, hN⟩
    · exact hN.elim
  · intro x s1 hX1
    by_cases q1 : x = 1
    · subst q1
      exact ⟨Nat.le_of_ble_eq_true rfl, hX1⟩
    by_cases q2 : x = 2
    · subst q2
      exact ⟨Nat.le_of_ble_eq_true rfl, hX1⟩
    by_cases q3 : x = 3
    · subst q3
      exact ⟨Nat.le_of_ble_eq_true rfl, hX1⟩
    simp [hX, hs_L_doubt, hix, Ne.symm q1, Ne.symm q2, Ne.symm q3] at hX1
theorem dL_proof_0 : decode cL_proof 0 = .ok (.aload 4, 2) := by decide +kernel
theorem dL_proof_2 : decode cL_proof 2 = .ok (.iconst 0, 1) := by decide +kernel
theorem dL_proof_3 : decode cL_proof 3 = .ok (.aload_n 0, 1) := by decide +kernel
theorem dL_proof_4 : decode cL_proof 4 = .ok (.iload_n 1, 1) := by decide +kernel
theorem dL_proof_5 : decode cL_proof 5 = .ok (.iload_n 2, 1) := by decide +kernel
theorem dL_proof_6 : decode cL_proof 6 = .ok (.iload_n 3, 1) := by decide +kernel
theorem dL_proof_7 : decode cL_proof 7 = .ok (.invokevirtual 67, 3) := by decide +kernel
theorem dL_proof_10 : decode cL_proof 10 = .ok (.i2l, 1) := by decide +kernel
theorem dL_proof_11 : decode cL_proof 11 = .ok (.lastore, 1) := by decide +kernel
theorem dL_proof_12 : decode cL_proof 12 = .ok (.goto 15, 3) := by decide +kernel
theorem dL_proof_15 : decode cL_proof 15 = .ok (.astore 5, 2) := by decide +kernel
theorem dL_proof_17 : decode cL_proof 17 = .ok (.iconst 1, 1) := by decide +kernel
theorem dL_proof_18 : decode cL_proof 18 = .ok (.ireturn, 1) := by decide +kernel
theorem dL_proof_19 : decode cL_proof 19 = .ok (.astore 5, 2) := by decide +kernel
theorem dL_proof_21 : decode cL_proof 21 = .ok (.iconst 2, 1) := by decide +kernel
theorem dL_proof_22 : decode cL_proof 22 = .ok (.ireturn, 1) := by decide +kernel
theorem dL_proof_23 : decode cL_proof 23 = .ok (.astore 5, 2) := by decide +kernel
theorem dL_proof_25 : decode cL_proof 25 = .ok (.iconst 3, 1) := by decide +kernel
theorem dL_proof_26 : decode cL_proof 26 = .ok (.ireturn, 1) := by decide +kernel
theorem dL_proof_27 : decode cL_proof 27 = .ok (.iconst 0, 1) := by decide +kernel
theorem dL_proof_28 : decode cL_proof 28 = .ok (.ireturn, 1) := by decide +kernel
def hs_L_proof : List HE := [(1, 13, 15, 5, 17), (2, 15, 19, 5, 21), (3, 17, 23, 5, 25)]
theorem hok_L_proof : ∀ h ∈ hs_L_proof, HOk RL cL_proof 6 h := ac (⟨⟨by decide, by decide⟩, by decide, w_151, w_xc1, by decide, Or.inr ⟨dL_proof_15, rfl⟩⟩) (ac (⟨⟨by decide, by decide⟩, by decide, w_152, w_xc2, by decide, Or.inr ⟨dL_proof_19, rfl⟩⟩) (ac (⟨⟨by decide, by decide⟩, by decide, w_153, w_xc3, by decide, Or.inr ⟨dL_proof_23, rfl⟩⟩) (an)))
def tab_L_proof : List (Nat × Sem) := [(0, op_al 4 2), (2, op_ic 0 3), (3, op_al 0 4), (4, op_il 1 5), (5, op_il 2 6), (6, op_il 3 7), (7, op_callHV 6 sp_X4_proof 4 5 10 hs_L_proof), (10, op_i2l 11), (11, op_last 12), (12, op_go 27), (17, op_ic 1 18), (18, op_iret), (21, op_ic 2 22), (22, op_iret), (25, op_ic 3 26), (26, op_iret), (27, op_ic 0 28), (28, op_iret)]
set_option maxRecDepth 20000 in
theorem tok_L_proof : ∀ q ∈ tab_L_proof, HGSnd (hTab 12 hs_L_proof) RL cL_proof 6 9 5 (some .int) q.1 q.2 := by
  unfold tab_L_proof
  refine hcons (hsnd_g (hk_aload dL_proof_0 rfl)) ?_
  refine hcons (hsnd_g (hk_iconst dL_proof_2 rfl rfl)) ?_
  refine hcons (hsnd_g (hk_aload_n dL_proof_3 rfl rfl)) ?_
  refine hcons (hsnd_g (hk_iload_n dL_proof_4 rfl rfl)) ?_
  refine hcons (hsnd_g (hk_iload_n dL_proof_5 rfl rfl)) ?_
  refine hcons (hsnd_g (hk_iload_n dL_proof_6 rfl rfl)) ?_
  refine hcons (hsnd_g (hk_invokevirtual M_X4_proof hok_L_proof (by decide) (C := RX4) (T := TX4) (nf := 8) rfl w_655 w_656 w_657 w_43 w_658 ⟨rfl, by decide, by decide, by decide +kernel⟩ (by decide) (by decide) dL_proof_7 rfl)) ?_
  refine hcons (hsnd_g (hk_i2l dL_proof_10 rfl)) ?_
  refine hcons (hsnd_g (hk_lastore dL_proof_11 rfl)) ?_
  refine hcons (hsnd_g (hk_goto dL_proof_12 rfl)) ?_
  refine hcons (hsnd_g (hk_iconst dL_proof_17 rfl rfl)) ?_
  refine hcons (hsnd_g (hk_ireturn rfl dL_proof_18)) ?_
  refine hcons (hsnd_g (hk_iconst dL_proof_21 rfl rfl)) ?_
  refine hcons (hsnd_g (hk_ireturn rfl dL_proof_22)) ?_
  refine hcons (hsnd_g (hk_iconst dL_proof_25 rfl rfl)) ?_
  refine hcons (hsnd_g (hk_ireturn rfl dL_proof_26)) ?_
  refine hcons (hsnd_g (hk_iconst dL_proof_27 rfl rfl)) ?_
  refine hcons (hsnd_g (hk_ireturn rfl dL_proof_28)) ?_
  exact fun _ h => nomatch h
def sp_L_proof : Spc := fun av s N _ => match av with
  | [.inl (.inr (1, 0)), .inl (.inl p0), .inl (.inl p1), .inl (.inl p2), .inl (.inr (60, 0))] => Lv s 60 0 ∧ sp_X4_proof [aR 1 0, aI p0, aI p1, aI p2] s (hNi N) (hX hs_L_proof N)
  | _ => False
set_option maxRecDepth 20000 in
set_option maxHeartbeats 1000000 in
theorem M_L_proof : HMet yL_proof cL_proof 6 (some .int) (hTab 12 hs_L_proof) 9 5 sp_L_proof := by
  refine HMet.mk (own := RL) (by decide) rfl [0, 1, 2, 3, 4, 5] rfl tok_L_proof 60 ?_
  intro av s0 N h
  unfold sp_L_proof at h
  split at h
  rotate_left
  · exact h.elim
  obtain ⟨h60, h⟩ := h
  refine ⟨rfl, by decide, Nat.le_of_ble_eq_true rfl, _, _, h, ?_, ?_⟩
  · intro r s1 hN
    unfold hNi at hN
    split at hN
    · exact ⟨h60, ib01, Nat.le_of_ble_eq_true rfl, hN⟩
    · exact hN.elim
  · intro x s1 hX1
    by_cases q1 : x = 1
    · subst q1
      exact ⟨Nat.le_of_ble_eq_true rfl, hX1⟩
    by_cases q2 : x = 2
    · subst q2
      exact ⟨Nat.le_of_ble_eq_true rfl, hX1⟩
    by_cases q3 : x = 3
    · subst q3
      exact ⟨Nat.le_of_ble_eq_true rfl, hX1⟩
    simp [hX, hs_L_proof, hix, Ne.symm q1, Ne.symm q2, Ne.symm q3] at hX1
theorem dL_publish_0 : decode cL_publish 0 = .ok (.aload_n 2, 1) := by decide +kernel
theorem dL_publish_1 : decode cL_publish 1 = .ok (.iconst 0, 1) := by decide +kernel
theorem dL_publish_2 : decode cL_publish 2 = .ok (.aload_n 0, 1) := by decide +kernel
theorem dL_publish_3 : decode cL_publish 3 = .ok (.iload_n 1, 1) := by decide +kernel
theorem dL_publish_4 : decode cL_publish 4 = .ok (.invokevirtual 71, 3) := by decide +kernel
theorem dL_publish_7 : decode cL_publish 7 = .ok (.i2l, 1) := by decide +kernel
theorem dL_publish_8 : decode cL_publish 8 = .ok (.lastore, 1) := by decide +kernel
theorem dL_publish_9 : decode cL_publish 9 = .ok (.goto 9, 3) := by decide +kernel
theorem dL_publish_12 : decode cL_publish 12 = .ok (.astore_n 3, 1) := by decide +kernel
theorem dL_publish_13 : decode cL_publish 13 = .ok (.iconst 1, 1) := by decide +kernel
theorem dL_publish_14 : decode cL_publish 14 = .ok (.ireturn, 1) := by decide +kernel
theorem dL_publish_15 : decode cL_publish 15 = .ok (.astore_n 3, 1) := by decide +kernel
theorem dL_publish_16 : decode cL_publish 16 = .ok (.iconst 2, 1) := by decide +kernel
theorem dL_publish_17 : decode cL_publish 17 = .ok (.ireturn, 1) := by decide +kernel
theorem dL_publish_18 : decode cL_publish 18 = .ok (.iconst 0, 1) := by decide +kernel
theorem dL_publish_19 : decode cL_publish 19 = .ok (.ireturn, 1) := by decide +kernel
def hs_L_publish : List HE := [(1, 13, 12, 3, 13), (3, 17, 15, 3, 16)]
theorem hok_L_publish : ∀ h ∈ hs_L_publish, HOk RL cL_publish 4 h := ac (⟨⟨by decide, by decide⟩, by decide, w_151, w_xc1, by decide, Or.inl ⟨3, dL_publish_12, rfl, rfl⟩⟩) (ac (⟨⟨by decide, by decide⟩, by decide, w_153, w_xc3, by decide, Or.inl ⟨3, dL_publish_15, rfl, rfl⟩⟩) (an))
def tab_L_publish : List (Nat × Sem) := [(0, op_al 2 1), (1, op_ic 0 2), (2, op_al 0 3), (3, op_il 1 4), (4, op_callHV 6 sp_X4_publish 2 2 7 hs_L_publish), (7, op_i2l 8), (8, op_last 9), (9, op_go 18), (13, op_ic 1 14), (14, op_iret), (16, op_ic 2 17), (17, op_iret), (18, op_ic 0 19), (19, op_iret)]
set_option maxRecDepth 20000 in
theorem tok_L_publish : ∀ q ∈ tab_L_publish, HGSnd (hTab 9 hs_L_publish) RL cL_publish 4 9 2 (some .int) q.1 q.2 := by
  unfold tab_L_publish
  refine hcons (hsnd_g (hk_aload_n dL_publish_0 rfl rfl)) ?_
  refine hcons (hsnd_g (hk_iconst dL_publish_1 rfl rfl)) ?_
  refine hcons (hsnd_g (hk_aload_n dL_publish_2 rfl rfl)) ?_
  refine hcons (hsnd_g (hk_iload_n dL_publish_3 rfl rfl)) ?_
  refine hcons (hsnd_g (hk_invokevirtual M_X4_publish hok_L_publish (by decide) (C := RX4) (T := TX4) (nf := 8) rfl w_662 w_663 w_664 w_43 w_665 ⟨rfl, by decide, by decide, by decide +kernel⟩ (by decide) (by decide) dL_publish_4 rfl)) ?_
  refine hcons (hsnd_g (hk_i2l dL_publish_7 rfl)) ?_
  refine hcons (hsnd_g (hk_lastore dL_publish_8 rfl)) ?_
  refine hcons (hsnd_g (hk_goto dL_publish_9 rfl)) ?_
  refine hcons (hsnd_g (hk_iconst dL_publish_13 rfl rfl)) ?_
  refine hcons (hsnd_g (hk_ireturn rfl dL_publish_14)) ?_
  refine hcons (hsnd_g (hk_iconst dL_publish_16 rfl rfl)) ?_
  refine hcons (hsnd_g (hk_ireturn rfl dL_publish_17)) ?_
  refine hcons (hsnd_g (hk_iconst dL_publish_18 rfl rfl)) ?_
  refine hcons (hsnd_g (hk_ireturn rfl dL_publish_19)) ?_
  exact fun _ h => nomatch h
def sp_L_publish : Spc := fun av s N _ => match av with
  | [.inl (.inr (1, 0)), .inl (.inl p0), .inl (.inr (60, 0))] => Lv s 60 0 ∧ sp_X4_publish [aR 1 0, aI p0] s (hNi N) (hX hs_L_publish N)
  | _ => False
set_option maxRecDepth 20000 in
set_option maxHeartbeats 1000000 in
theorem M_L_publish : HMet yL_publish cL_publish 4 (some .int) (hTab 9 hs_L_publish) 9 2 sp_L_publish := by
  refine HMet.mk (own := RL) (by decide) rfl [0, 1, 2, 3] rfl tok_L_publish 60 ?_
  intro av s0 N h
  unfold sp_L_publish at h
  split at h
  rotate_left
  · exact h.elim
  obtain ⟨h60, h⟩ := h
  refine ⟨rfl, by decide, Nat.le_of_ble_eq_true rfl, _, _, h, ?_, ?_⟩
  · intro r s1 hN
    unfold hNi at hN
    split at hN
    · exact ⟨h60, ib01, Nat.le_of_ble_eq_true rfl, hN⟩
    · exact hN.elim
  · intro x s1 hX1
    by_cases q1 : x = 1
    · subst q1
      exact ⟨Nat.le_of_ble_eq_true rfl, hX1⟩
    by_cases q3 : x = 3
    · subst q3
      exact ⟨Nat.le_of_ble_eq_true rfl, hX1⟩
    simp [hX, hs_L_publish, hix, Ne.symm q1, Ne.symm q3] at hX1
theorem dL_vote_0 : decode cL_vote 0 = .ok (.aload 4, 2) := by decide +kernel
theorem dL_vote_2 : decode cL_vote 2 = .ok (.iconst 0, 1) := by decide +kernel
theorem dL_vote_3 : decode cL_vote 3 = .ok (.aload_n 0, 1) := by decide +kernel
theorem dL_vote_4 : decode cL_vote 4 = .ok (.iload_n 1, 1) := by decide +kernel
theorem dL_vote_5 : decode cL_vote 5 = .ok (.iload_n 2, 1) := by decide +kernel
theorem dL_vote_6 : decode cL_vote 6 = .ok (.iload_n 3, 1) := by decide +kernel
theorem dL_vote_7 : decode cL_vote 7 = .ok (.invokevirtual 74, 3) := by decide +kernel
theorem dL_vote_10 : decode cL_vote 10 = .ok (.i2l, 1) := by decide +kernel
theorem dL_vote_11 : decode cL_vote 11 = .ok (.lastore, 1) := by decide +kernel
theorem dL_vote_12 : decode cL_vote 12 = .ok (.goto 15, 3) := by decide +kernel
theorem dL_vote_15 : decode cL_vote 15 = .ok (.astore 5, 2) := by decide +kernel
theorem dL_vote_17 : decode cL_vote 17 = .ok (.iconst 1, 1) := by decide +kernel
theorem dL_vote_18 : decode cL_vote 18 = .ok (.ireturn, 1) := by decide +kernel
theorem dL_vote_19 : decode cL_vote 19 = .ok (.astore 5, 2) := by decide +kernel
theorem dL_vote_21 : decode cL_vote 21 = .ok (.iconst 2, 1) := by decide +kernel
theorem dL_vote_22 : decode cL_vote 22 = .ok (.ireturn, 1) := by decide +kernel
theorem dL_vote_23 : decode cL_vote 23 = .ok (.astore 5, 2) := by decide +kernel
theorem dL_vote_25 : decode cL_vote 25 = .ok (.iconst 3, 1) := by decide +kernel
theorem dL_vote_26 : decode cL_vote 26 = .ok (.ireturn, 1) := by decide +kernel
theorem dL_vote_27 : decode cL_vote 27 = .ok (.iconst 0, 1) := by decide +kernel
theorem dL_vote_28 : decode cL_vote 28 = .ok (.ireturn, 1) := by decide +kernel
def hs_L_vote : List HE := [(1, 13, 15, 5, 17), (2, 15, 19, 5, 21), (3, 17, 23, 5, 25)]
theorem hok_L_vote : ∀ h ∈ hs_L_vote, HOk RL cL_vote 6 h := ac (⟨⟨by decide, by decide⟩, by decide, w_151, w_xc1, by decide, Or.inr ⟨dL_vote_15, rfl⟩⟩) (ac (⟨⟨by decide, by decide⟩, by decide, w_152, w_xc2, by decide, Or.inr ⟨dL_vote_19, rfl⟩⟩) (ac (⟨⟨by decide, by decide⟩, by decide, w_153, w_xc3, by decide, Or.inr ⟨dL_vote_23, rfl⟩⟩) (an)))
def tab_L_vote : List (Nat × Sem) := [(0, op_al 4 2), (2, op_ic 0 3), (3, op_al 0 4), (4, op_il 1 5), (5, op_il 2 6), (6, op_il 3 7), (7, op_callHV 6 sp_X4_vote 4 5 10 hs_L_vote), (10, op_i2l 11), (11, op_last 12), (12, op_go 27), (17, op_ic 1 18), (18, op_iret), (21, op_ic 2 22), (22, op_iret), (25, op_ic 3 26), (26, op_iret), (27, op_ic 0 28), (28, op_iret)]
set_option maxRecDepth 20000 in
theorem tok_L_vote : ∀ q ∈ tab_L_vote, HGSnd (hTab 12 hs_L_vote) RL cL_vote 6 9 5 (some .int) q.1 q.2 := by
  unfold tab_L_vote
  refine hcons (hsnd_g (hk_aload dL_vote_0 rfl)) ?_
  refine hcons (hsnd_g (hk_iconst dL_vote_2 rfl rfl)) ?_
  refine hcons (hsnd_g (hk_aload_n dL_vote_3 rfl rfl)) ?_
  refine hcons (hsnd_g (hk_iload_n dL_vote_4 rfl rfl)) ?_
  refine hcons (hsnd_g (hk_iload_n dL_vote_5 rfl rfl)) ?_
  refine hcons (hsnd_g (hk_iload_n dL_vote_6 rfl rfl)) ?_
  refine hcons (hsnd_g (hk_invokevirtual M_X4_vote hok_L_vote (by decide) (C := RX4) (T := TX4) (nf := 8) rfl w_673 w_674 w_675 w_43 w_676 ⟨rfl, by decide, by decide, by decide +kernel⟩ (by decide) (by decide) dL_vote_7 rfl)) ?_
  refine hcons (hsnd_g (hk_i2l dL_vote_10 rfl)) ?_
  refine hcons (hsnd_g (hk_lastore dL_vote_11 rfl)) ?_
  refine hcons (hsnd_g (hk_goto dL_vote_12 rfl)) ?_
  refine hcons (hsnd_g (hk_iconst dL_vote_17 rfl rfl)) ?_
  refine hcons (hsnd_g (hk_ireturn rfl dL_vote_18)) ?_
  refine hcons (hsnd_g (hk_iconst dL_vote_21 rfl rfl)) ?_
  refine hcons (hsnd_g (hk_ireturn rfl dL_vote_22)) ?_
  refine hcons (hsnd_g (hk_iconst dL_vote_25 rfl rfl)) ?_
  refine hcons (hsnd_g (hk_ireturn rfl dL_vote_26)) ?_
  refine hcons (hsnd_g (hk_iconst dL_vote_27 rfl rfl)) ?_
  refine hcons (hsnd_g (hk_ireturn rfl dL_vote_28)) ?_
  exact fun _ h => nomatch h
def sp_L_vote : Spc := fun av s N _ => match av with
  | [.inl (.inr (1, 0)), .inl (.inl p0), .inl (.inl p1), .inl (.inl p2), .inl (.inr (60, 0))] => Lv s 60 0 ∧ sp_X4_vote [aR 1 0, aI p0, aI p1, aI p2] s (hNi N) (hX hs_L_vote N)
  | _ => False
set_option maxRecDepth 20000 in
set_option maxHeartbeats 1000000 in
theorem M_L_vote : HMet yL_vote cL_vote 6 (some .int) (hTab 12 hs_L_vote) 9 5 sp_L_vote := by
  refine HMet.mk (own := RL) (by decide) rfl [0, 1, 2, 3, 4, 5] rfl tok_L_vote 60 ?_
  intro av s0 N h
  unfold sp_L_vote at h
  split at h
  rotate_left
  · exact h.elim
  obtain ⟨h60, h⟩ := h
  refine ⟨rfl, by decide, Nat.le_of_ble_eq_true rfl, _, _, h, ?_, ?_⟩
  · intro r s1 hN
    unfold hNi at hN
    split at hN
    · exact ⟨h60, ib01, Nat.le_of_ble_eq_true rfl, hN⟩
    · exact hN.elim
  · intro x s1 hX1
    by_cases q1 : x = 1
    · subst q1
      exact ⟨Nat.le_of_ble_eq_true rfl, hX1⟩
    by_cases q2 : x = 2
    · subst q2
      exact ⟨Nat.le_of_ble_eq_true rfl, hX1⟩
    by_cases q3 : x = 3
    · subst q3
      exact ⟨Nat.le_of_ble_eq_true rfl, hX1⟩
    simp [hX, hs_L_vote, hix, Ne.symm q1, Ne.symm q2, Ne.symm q3] at hX1
theorem dL_sentence_0 : decode cL_sentence 0 = .ok (.aload_n 2, 1) := by decide +kernel
theorem dL_sentence_1 : decode cL_sentence 1 = .ok (.iconst 0, 1) := by decide +kernel
theorem dL_sentence_2 : decode cL_sentence 2 = .ok (.aload_n 0, 1) := by decide +kernel
theorem dL_sentence_3 : decode cL_sentence 3 = .ok (.iload_n 1, 1) := by decide +kernel
theorem dL_sentence_4 : decode cL_sentence 4 = .ok (.invokevirtual 77, 3) := by decide +kernel
theorem dL_sentence_7 : decode cL_sentence 7 = .ok (.i2l, 1) := by decide +kernel
theorem dL_sentence_8 : decode cL_sentence 8 = .ok (.lastore, 1) := by decide +kernel
theorem dL_sentence_9 : decode cL_sentence 9 = .ok (.goto 9, 3) := by decide +kernel
theorem dL_sentence_12 : decode cL_sentence 12 = .ok (.astore_n 3, 1) := by decide +kernel
theorem dL_sentence_13 : decode cL_sentence 13 = .ok (.iconst 1, 1) := by decide +kernel
theorem dL_sentence_14 : decode cL_sentence 14 = .ok (.ireturn, 1) := by decide +kernel
theorem dL_sentence_15 : decode cL_sentence 15 = .ok (.astore_n 3, 1) := by decide +kernel
theorem dL_sentence_16 : decode cL_sentence 16 = .ok (.iconst 2, 1) := by decide +kernel
theorem dL_sentence_17 : decode cL_sentence 17 = .ok (.ireturn, 1) := by decide +kernel
theorem dL_sentence_18 : decode cL_sentence 18 = .ok (.iconst 0, 1) := by decide +kernel
theorem dL_sentence_19 : decode cL_sentence 19 = .ok (.ireturn, 1) := by decide +kernel
def hs_L_sentence : List HE := [(1, 13, 12, 3, 13), (3, 17, 15, 3, 16)]
theorem hok_L_sentence : ∀ h ∈ hs_L_sentence, HOk RL cL_sentence 4 h := ac (⟨⟨by decide, by decide⟩, by decide, w_151, w_xc1, by decide, Or.inl ⟨3, dL_sentence_12, rfl, rfl⟩⟩) (ac (⟨⟨by decide, by decide⟩, by decide, w_153, w_xc3, by decide, Or.inl ⟨3, dL_sentence_15, rfl, rfl⟩⟩) (an))
def tab_L_sentence : List (Nat × Sem) := [(0, op_al 2 1), (1, op_ic 0 2), (2, op_al 0 3), (3, op_il 1 4), (4, op_callHV 6 sp_X4_sentence 2 3 7 hs_L_sentence), (7, op_i2l 8), (8, op_last 9), (9, op_go 18), (13, op_ic 1 14), (14, op_iret), (16, op_ic 2 17), (17, op_iret), (18, op_ic 0 19), (19, op_iret)]
set_option maxRecDepth 20000 in
theorem tok_L_sentence : ∀ q ∈ tab_L_sentence, HGSnd (hTab 9 hs_L_sentence) RL cL_sentence 4 9 3 (some .int) q.1 q.2 := by
  unfold tab_L_sentence
  refine hcons (hsnd_g (hk_aload_n dL_sentence_0 rfl rfl)) ?_
  refine hcons (hsnd_g (hk_iconst dL_sentence_1 rfl rfl)) ?_
  refine hcons (hsnd_g (hk_aload_n dL_sentence_2 rfl rfl)) ?_
  refine hcons (hsnd_g (hk_iload_n dL_sentence_3 rfl rfl)) ?_
  refine hcons (hsnd_g (hk_invokevirtual M_X4_sentence hok_L_sentence (by decide) (C := RX4) (T := TX4) (nf := 8) rfl w_684 w_685 w_686 w_43 w_687 ⟨rfl, by decide, by decide, by decide +kernel⟩ (by decide) (by decide) dL_sentence_4 rfl)) ?_
  refine hcons (hsnd_g (hk_i2l dL_sentence_7 rfl)) ?_
  refine hcons (hsnd_g (hk_lastore dL_sentence_8 rfl)) ?_
  refine hcons (hsnd_g (hk_goto dL_sentence_9 rfl)) ?_
  refine hcons (hsnd_g (hk_iconst dL_sentence_13 rfl rfl)) ?_
  refine hcons (hsnd_g (hk_ireturn rfl dL_sentence_14)) ?_
  refine hcons (hsnd_g (hk_iconst dL_sentence_16 rfl rfl)) ?_
  refine hcons (hsnd_g (hk_ireturn rfl dL_sentence_17)) ?_
  refine hcons (hsnd_g (hk_iconst dL_sentence_18 rfl rfl)) ?_
  refine hcons (hsnd_g (hk_ireturn rfl dL_sentence_19)) ?_
  exact fun _ h => nomatch h
def sp_L_sentence : Spc := fun av s N _ => match av with
  | [.inl (.inr (1, 0)), .inl (.inl p0), .inl (.inr (60, 0))] => Lv s 60 0 ∧ sp_X4_sentence [aR 1 0, aI p0] s (hNi N) (hX hs_L_sentence N)
  | _ => False
set_option maxRecDepth 20000 in
set_option maxHeartbeats 1000000 in
theorem M_L_sentence : HMet yL_sentence cL_sentence 4 (some .int) (hTab 9 hs_L_sentence) 9 3 sp_L_sentence := by
  refine HMet.mk (own := RL) (by decide) rfl [0, 1, 2, 3] rfl tok_L_sentence 60 ?_
  intro av s0 N h
  unfold sp_L_sentence at h
  split at h
  rotate_left
  · exact h.elim
  obtain ⟨h60, h⟩ := h
  refine ⟨rfl, by decide, Nat.le_of_ble_eq_true rfl, _, _, h, ?_, ?_⟩
  · intro r s1 hN
    unfold hNi at hN
    split at hN
    · exact ⟨h60, ib01, Nat.le_of_ble_eq_true rfl, hN⟩
    · exact hN.elim
  · intro x s1 hX1
    by_cases q1 : x = 1
    · subst q1
      exact ⟨Nat.le_of_ble_eq_true rfl, hX1⟩
    by_cases q3 : x = 3
    · subst q3
      exact ⟨Nat.le_of_ble_eq_true rfl, hX1⟩
    simp [hX, hs_L_sentence, hix, Ne.symm q1, Ne.symm q3] at hX1
theorem dL_appeal_0 : decode cL_appeal 0 = .ok (.aload_n 0, 1) := by decide +kernel
theorem dL_appeal_1 : decode cL_appeal 1 = .ok (.iload_n 1, 1) := by decide +kernel
theorem dL_appeal_2 : decode cL_appeal 2 = .ok (.invokevirtual 80, 3) := by decide +kernel
theorem dL_appeal_5 : decode cL_appeal 5 = .ok (.goto 9, 3) := by decide +kernel
theorem dL_appeal_8 : decode cL_appeal 8 = .ok (.astore_n 2, 1) := by decide +kernel
theorem dL_appeal_9 : decode cL_appeal 9 = .ok (.iconst 1, 1) := by decide +kernel
theorem dL_appeal_10 : decode cL_appeal 10 = .ok (.ireturn, 1) := by decide +kernel
theorem dL_appeal_11 : decode cL_appeal 11 = .ok (.astore_n 2, 1) := by decide +kernel
theorem dL_appeal_12 : decode cL_appeal 12 = .ok (.iconst 2, 1) := by decide +kernel
theorem dL_appeal_13 : decode cL_appeal 13 = .ok (.ireturn, 1) := by decide +kernel
theorem dL_appeal_14 : decode cL_appeal 14 = .ok (.iconst 0, 1) := by decide +kernel
theorem dL_appeal_15 : decode cL_appeal 15 = .ok (.ireturn, 1) := by decide +kernel
def hs_L_appeal : List HE := [(1, 13, 8, 2, 9), (3, 17, 11, 2, 12)]
theorem hok_L_appeal : ∀ h ∈ hs_L_appeal, HOk RL cL_appeal 3 h := ac (⟨⟨by decide, by decide⟩, by decide, w_151, w_xc1, by decide, Or.inl ⟨2, dL_appeal_8, rfl, rfl⟩⟩) (ac (⟨⟨by decide, by decide⟩, by decide, w_153, w_xc3, by decide, Or.inl ⟨2, dL_appeal_11, rfl, rfl⟩⟩) (an))
def tab_L_appeal : List (Nat × Sem) := [(0, op_al 0 1), (1, op_il 1 2), (2, op_callHV 6 sp_X4_appeal 2 4 5 hs_L_appeal), (5, op_go 14), (9, op_ic 1 10), (10, op_iret), (12, op_ic 2 13), (13, op_iret), (14, op_ic 0 15), (15, op_iret)]
set_option maxRecDepth 20000 in
theorem tok_L_appeal : ∀ q ∈ tab_L_appeal, HGSnd (hTab 5 hs_L_appeal) RL cL_appeal 3 10 4 (some .int) q.1 q.2 := by
  unfold tab_L_appeal
  refine hcons (hsnd_g (hk_aload_n dL_appeal_0 rfl rfl)) ?_
  refine hcons (hsnd_g (hk_iload_n dL_appeal_1 rfl rfl)) ?_
  refine hcons (hsnd_g (hk_invokevirtual M_X4_appeal hok_L_appeal (by decide) (C := RX4) (T := TX4) (nf := 8) rfl w_718 w_719 w_720 w_43 w_721 ⟨rfl, by decide, by decide, by decide +kernel⟩ (by decide) (by decide) dL_appeal_2 rfl)) ?_
  refine hcons (hsnd_g (hk_goto dL_appeal_5 rfl)) ?_
  refine hcons (hsnd_g (hk_iconst dL_appeal_9 rfl rfl)) ?_
  refine hcons (hsnd_g (hk_ireturn rfl dL_appeal_10)) ?_
  refine hcons (hsnd_g (hk_iconst dL_appeal_12 rfl rfl)) ?_
  refine hcons (hsnd_g (hk_ireturn rfl dL_appeal_13)) ?_
  refine hcons (hsnd_g (hk_iconst dL_appeal_14 rfl rfl)) ?_
  refine hcons (hsnd_g (hk_ireturn rfl dL_appeal_15)) ?_
  exact fun _ h => nomatch h
def sp_L_appeal : Spc := fun av s N _ => match av with
  | [.inl (.inr (1, 0)), .inl (.inl p0)] => Lv s 60 0 ∧ sp_X4_appeal [aR 1 0, aI p0] s (hNv N) (hX hs_L_appeal N)
  | _ => False
set_option maxRecDepth 20000 in
set_option maxHeartbeats 1000000 in
theorem M_L_appeal : HMet yL_appeal cL_appeal 3 (some .int) (hTab 5 hs_L_appeal) 10 4 sp_L_appeal := by
  refine HMet.mk (own := RL) (by decide) rfl [0, 1, 2] rfl tok_L_appeal 60 ?_
  intro av s0 N h
  unfold sp_L_appeal at h
  split at h
  rotate_left
  · exact h.elim
  obtain ⟨h60, h⟩ := h
  refine ⟨rfl, by decide, Nat.le_of_ble_eq_true rfl, _, _, h, ?_, ?_⟩
  · intro r s1 hN
    unfold hNv at hN
    split at hN
    · exact ⟨Nat.le_of_ble_eq_true rfl, hN⟩
    · exact hN.elim
  · intro x s1 hX1
    by_cases q1 : x = 1
    · subst q1
      exact ⟨Nat.le_of_ble_eq_true rfl, hX1⟩
    by_cases q3 : x = 3
    · subst q3
      exact ⟨Nat.le_of_ble_eq_true rfl, hX1⟩
    simp [hX, hs_L_appeal, hix, Ne.symm q1, Ne.symm q3] at hX1

