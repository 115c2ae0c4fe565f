/-! the law's helpers -/
theorem dL_pass_0 : decode cL_pass 0 = .ok (.aload_n 2, 1) := by decide +kernel
theorem dL_pass_1 : decode cL_pass 1 = .ok (.iconst 0, 1) := by decide +kernel
theorem dL_pass_2 : decode cL_pass 2 = .ok (.aload_n 0, 1) := by decide +kernel
theorem dL_pass_3 : decode cL_pass 3 = .ok (.iload_n 1, 1) := by decide +kernel
theorem dL_pass_4 : decode cL_pass 4 = .ok (.invokevirtual 83, 3) := by decide +kernel
theorem dL_pass_7 : decode cL_pass 7 = .ok (.i2l, 1) := by decide +kernel
theorem dL_pass_8 : decode cL_pass 8 = .ok (.lastore, 1) := by decide +kernel
theorem dL_pass_9 : decode cL_pass 9 = .ok (.goto 6, 3) := by decide +kernel
theorem dL_pass_12 : decode cL_pass 12 = .ok (.astore_n 3, 1) := by decide +kernel
theorem dL_pass_13 : decode cL_pass 13 = .ok (.iconst 1, 1) := by decide +kernel
theorem dL_pass_14 : decode cL_pass 14 = .ok (.ireturn, 1) := by decide +kernel
theorem dL_pass_15 : decode cL_pass 15 = .ok (.iconst 0, 1) := by decide +kernel
theorem dL_pass_16 : decode cL_pass 16 = .ok (.ireturn, 1) := by decide +kernel
def hs_L_pass : List HE := [(2, 15, 12, 3, 13)]
theorem hok_L_pass : ∀ h ∈ hs_L_pass, HOk RL cL_pass 4 h := ac (⟨⟨by decide, by decide⟩, by decide, w_152, w_xc2, by decide, Or.inl ⟨3, dL_pass_12, rfl, rfl⟩⟩) (an)
def tab_L_pass : List (Nat × Sem) := [(0, op_al 2 1), (1, op_ic 0 2), (2, op_al 0 3), (3, op_il 1 4), (4, op_callHV 6 sp_X4_pass 2 1 7 hs_L_pass), (7, op_i2l 8), (8, op_last 9), (9, op_go 15), (13, op_ic 1 14), (14, op_iret), (15, op_ic 0 16), (16, op_iret)]
set_option maxRecDepth 20000 in
theorem tok_L_pass : ∀ q ∈ tab_L_pass, HGSnd (hTab 9 hs_L_pass) RL cL_pass 4 8 1 (some .int) q.1 q.2 := by
  unfold tab_L_pass
  refine hcons (hsnd_g (hk_aload_n dL_pass_0 rfl rfl)) ?_
  refine hcons (hsnd_g (hk_iconst dL_pass_1 rfl rfl)) ?_
  refine hcons (hsnd_g (hk_aload_n dL_pass_2 rfl rfl)) ?_
  refine hcons (hsnd_g (hk_iload_n dL_pass_3 rfl rfl)) ?_
  refine hcons (hsnd_g (hk_invokevirtual M_X4_pass hok_L_pass (by decide) (C := RX4) (T := TX4) (nf := 8) rfl w_726 w_727 w_728 w_43 w_729 ⟨rfl, by decide, by decide, by decide +kernel⟩ (by decide) (by decide) dL_pass_4 rfl)) ?_
  refine hcons (hsnd_g (hk_i2l dL_pass_7 rfl)) ?_
  refine hcons (hsnd_g (hk_lastore dL_pass_8 rfl)) ?_
  refine hcons (hsnd_g (hk_goto dL_pass_9 rfl)) ?_
  refine hcons (hsnd_g (hk_iconst dL_pass_13 rfl rfl)) ?_
  refine hcons (hsnd_g (hk_ireturn rfl dL_pass_14)) ?_
  refine hcons (hsnd_g (hk_iconst dL_pass_15 rfl rfl)) ?_
  refine hcons (hsnd_g (hk_ireturn rfl dL_pass_16)) ?_
  exact fun _ h => nomatch h
def sp_L_pass : Spc := fun av s N _ => match av with
  | [.inl (.inr (1, 0)), .inl (.inl p0), .inl (.inr (60, 0))] => Lv s 60 0 ∧ sp_X4_pass [aR 1 0, aI p0] s (hNi N) (hX hs_L_pass N)
  | _ => False
set_option maxRecDepth 20000 in
set_option maxHeartbeats 1000000 in
theorem M_L_pass : HMet yL_pass cL_pass 4 (some .int) (hTab 9 hs_L_pass) 8 1 sp_L_pass := by
  refine HMet.mk (own := RL) (by decide) rfl [0, 1, 2, 3] rfl tok_L_pass 60 ?_
  intro av s0 N h
  unfold sp_L_pass at h
  split at h
  rotate_left
  · exact h.elim
  obtain ⟨h60, h⟩ := h
  refine ⟨rfl, by decide, Nat.le_of_ble_eq_true rfl, _, _, h, ?_, ?_⟩
  · intro r s1 hN
    unfold hNi at hN
    split at hN
    · exact ⟨h60, ib01, Nat.le_of_ble_eq_true rfl, hN⟩
    · exact hN.elim
  · intro x s1 hX1
    by_cases q2 : x = 2
    · subst q2
      exact ⟨Nat.le_of_ble_eq_true rfl, hX1⟩
    simp [hX, hs_L_pass, hix, Ne.symm q2] at hX1
theorem dL_kin_0 : decode cL_kin 0 = .ok (.aload_n 3, 1) := by decide +kernel
theorem dL_kin_1 : decode cL_kin 1 = .ok (.iconst 0, 1) := by decide +kernel
theorem dL_kin_2 : decode cL_kin 2 = .ok (.aload_n 0, 1) := by decide +kernel
theorem dL_kin_3 : decode cL_kin 3 = .ok (.iload_n 1, 1) := by decide +kernel
theorem dL_kin_4 : decode cL_kin 4 = .ok (.iload_n 2, 1) := by decide +kernel
theorem dL_kin_5 : decode cL_kin 5 = .ok (.invokevirtual 86, 3) := by decide +kernel
theorem dL_kin_8 : decode cL_kin 8 = .ok (.i2l, 1) := by decide +kernel
theorem dL_kin_9 : decode cL_kin 9 = .ok (.lastore, 1) := by decide +kernel
theorem dL_kin_10 : decode cL_kin 10 = .ok (.goto 7, 3) := by decide +kernel
theorem dL_kin_13 : decode cL_kin 13 = .ok (.astore 4, 2) := by decide +kernel
theorem dL_kin_15 : decode cL_kin 15 = .ok (.iconst 1, 1) := by decide +kernel
theorem dL_kin_16 : decode cL_kin 16 = .ok (.ireturn, 1) := by decide +kernel
theorem dL_kin_17 : decode cL_kin 17 = .ok (.iconst 0, 1) := by decide +kernel
theorem dL_kin_18 : decode cL_kin 18 = .ok (.ireturn, 1) := by decide +kernel
def hs_L_kin : List HE := [(1, 13, 13, 4, 15)]
theorem hok_L_kin : ∀ h ∈ hs_L_kin, HOk RL cL_kin 5 h := ac (⟨⟨by decide, by decide⟩, by decide, w_151, w_xc1, by decide, Or.inr ⟨dL_kin_13, rfl⟩⟩) (an)
def tab_L_kin : List (Nat × Sem) := [(0, op_al 3 1), (1, op_ic 0 2), (2, op_al 0 3), (3, op_il 1 4), (4, op_il 2 5), (5, op_callHV 6 sp_X4_kin 3 1 8 hs_L_kin), (8, op_i2l 9), (9, op_last 10), (10, op_go 17), (15, op_ic 1 16), (16, op_iret), (17, op_ic 0 18), (18, op_iret)]
set_option maxRecDepth 20000 in
theorem tok_L_kin : ∀ q ∈ tab_L_kin, HGSnd (hTab 10 hs_L_kin) RL cL_kin 5 8 1 (some .int) q.1 q.2 := by
  unfold tab_L_kin
  refine hcons (hsnd_g (hk_aload_n dL_kin_0 rfl rfl)) ?_
  refine hcons (hsnd_g (hk_iconst dL_kin_1 rfl rfl)) ?_
  refine hcons (hsnd_g (hk_aload_n dL_kin_2 rfl rfl)) ?_
  refine hcons (hsnd_g (hk_iload_n dL_kin_3 rfl rfl)) ?_
  refine hcons (hsnd_g (hk_iload_n dL_kin_4 rfl rfl)) ?_
  refine hcons (hsnd_g (hk_invokevirtual M_X4_kin hok_L_kin (by decide) (C := RX4) (T := TX4) (nf := 8) rfl w_733 w_734 w_735 w_43 w_736 ⟨rfl, by decide, by decide, by decide +kernel⟩ (by decide) (by decide) dL_kin_5 rfl)) ?_
  refine hcons (hsnd_g (hk_i2l dL_kin_8 rfl)) ?_
  refine hcons (hsnd_g (hk_lastore dL_kin_9 rfl)) ?_
  refine hcons (hsnd_g (hk_goto dL_kin_10 rfl)) ?_
  refine hcons (hsnd_g (hk_iconst dL_kin_15 rfl rfl)) ?_
  refine hcons (hsnd_g (hk_ireturn rfl dL_kin_16)) ?_
  refine hcons (hsnd_g (hk_iconst dL_kin_17 rfl rfl)) ?_
  refine hcons (hsnd_g (hk_ireturn rfl dL_kin_18)) ?_
  exact fun _ h => nomatch h
def sp_L_kin : Spc := fun av s N _ => match av with
  | [.inl (.inr (1, 0)), .inl (.inl p0), .inl (.inl p1), .inl (.inr (60, 0))] => Lv s 60 0 ∧ sp_X4_kin [aR 1 0, aI p0, aI p1] s (hNi N) (hX hs_L_kin N)
  | _ => False
set_option maxRecDepth 20000 in
set_option maxHeartbeats 1000000 in
theorem M_L_kin : HMet yL_kin cL_kin 5 (some .int) (hTab 10 hs_L_kin) 8 1 sp_L_kin := by
  refine HMet.mk (own := RL) (by decide) rfl [0, 1, 2, 3, 4] rfl tok_L_kin 60 ?_
  intro av s0 N h
  unfold sp_L_kin at h
  split at h
  rotate_left
  · exact h.elim
  obtain ⟨h60, h⟩ := h
  refine ⟨rfl, by decide, Nat.le_of_ble_eq_true rfl, _, _, h, ?_, ?_⟩
  · intro r s1 hN
    unfold hNi at hN
    split at hN
    · exact ⟨h60, ib01, Nat.le_of_ble_eq_true rfl, hN⟩
    · exact hN.elim
  · intro x s1 hX1
    by_cases q1 : x = 1
    · subst q1
      exact ⟨Nat.le_of_ble_eq_true rfl, hX1⟩
    simp [hX, hs_L_kin, hix, Ne.symm q1] at hX1
theorem dL_ancestor_0 : decode cL_ancestor 0 = .ok (.aload_n 3, 1) := by decide +kernel
theorem dL_ancestor_1 : decode cL_ancestor 1 = .ok (.iconst 0, 1) := by decide +kernel
theorem dL_ancestor_2 : decode cL_ancestor 2 = .ok (.aload_n 0, 1) := by decide +kernel
theorem dL_ancestor_3 : decode cL_ancestor 3 = .ok (.iload_n 1, 1) := by decide +kernel
theorem dL_ancestor_4 : decode cL_ancestor 4 = .ok (.iload_n 2, 1) := by decide +kernel
theorem dL_ancestor_5 : decode cL_ancestor 5 = .ok (.invokevirtual 89, 3) := by decide +kernel
theorem dL_ancestor_8 : decode cL_ancestor 8 = .ok (.i2l, 1) := by decide +kernel
theorem dL_ancestor_9 : decode cL_ancestor 9 = .ok (.lastore, 1) := by decide +kernel
theorem dL_ancestor_10 : decode cL_ancestor 10 = .ok (.goto 7, 3) := by decide +kernel
theorem dL_ancestor_13 : decode cL_ancestor 13 = .ok (.astore 4, 2) := by decide +kernel
theorem dL_ancestor_15 : decode cL_ancestor 15 = .ok (.iconst 1, 1) := by decide +kernel
theorem dL_ancestor_16 : decode cL_ancestor 16 = .ok (.ireturn, 1) := by decide +kernel
theorem dL_ancestor_17 : decode cL_ancestor 17 = .ok (.iconst 0, 1) := by decide +kernel
theorem dL_ancestor_18 : decode cL_ancestor 18 = .ok (.ireturn, 1) := by decide +kernel
def hs_L_ancestor : List HE := [(1, 13, 13, 4, 15)]
theorem hok_L_ancestor : ∀ h ∈ hs_L_ancestor, HOk RL cL_ancestor 5 h := ac (⟨⟨by decide, by decide⟩, by decide, w_151, w_xc1, by decide, Or.inr ⟨dL_ancestor_13, rfl⟩⟩) (an)
def tab_L_ancestor : List (Nat × Sem) := [(0, op_al 3 1), (1, op_ic 0 2), (2, op_al 0 3), (3, op_il 1 4), (4, op_il 2 5), (5, op_callHV 6 sp_X4_ancestor 3 1 8 hs_L_ancestor), (8, op_i2l 9), (9, op_last 10), (10, op_go 17), (15, op_ic 1 16), (16, op_iret), (17, op_ic 0 18), (18, op_iret)]
set_option maxRecDepth 20000 in
theorem tok_L_ancestor : ∀ q ∈ tab_L_ancestor, HGSnd (hTab 10 hs_L_ancestor) RL cL_ancestor 5 8 1 (some .int) q.1 q.2 := by
  unfold tab_L_ancestor
  refine hcons (hsnd_g (hk_aload_n dL_ancestor_0 rfl rfl)) ?_
  refine hcons (hsnd_g (hk_iconst dL_ancestor_1 rfl rfl)) ?_
  refine hcons (hsnd_g (hk_aload_n dL_ancestor_2 rfl rfl)) ?_
  refine hcons (hsnd_g (hk_iload_n dL_ancestor_3 rfl rfl)) ?_
  refine hcons (hsnd_g (hk_iload_n dL_ancestor_4 rfl rfl)) ?_
  refine hcons (hsnd_g (hk_invokevirtual M_X4_ancestor hok_L_ancestor (by decide) (C := RX4) (T := TX4) (nf := 8) rfl w_740 w_741 w_742 w_43 w_743 ⟨rfl, by decide, by decide, by decide +kernel⟩ (by decide) (by decide) dL_ancestor_5 rfl)) ?_
  refine hcons (hsnd_g (hk_i2l dL_ancestor_8 rfl)) ?_
  refine hcons (hsnd_g (hk_lastore dL_ancestor_9 rfl)) ?_
  refine hcons (hsnd_g (hk_goto dL_ancestor_10 rfl)) ?_
  refine hcons (hsnd_g (hk_iconst dL_ancestor_15 rfl rfl)) ?_
  refine hcons (hsnd_g (hk_ireturn rfl dL_ancestor_16)) ?_
  refine hcons (hsnd_g (hk_iconst dL_ancestor_17 rfl rfl)) ?_
  refine hcons (hsnd_g (hk_ireturn rfl dL_ancestor_18)) ?_
  exact fun _ h => nomatch h
def sp_L_ancestor : Spc := fun av s N _ => match av with
  | [.inl (.inr (1, 0)), .inl (.inl p0), .inl (.inl p1), .inl (.inr (60, 0))] => Lv s 60 0 ∧ sp_X4_ancestor [aR 1 0, aI p0, aI p1] s (hNi N) (hX hs_L_ancestor N)
  | _ => False
set_option maxRecDepth 20000 in
set_option maxHeartbeats 1000000 in
theorem M_L_ancestor : HMet yL_ancestor cL_ancestor 5 (some .int) (hTab 10 hs_L_ancestor) 8 1 sp_L_ancestor := by
  refine HMet.mk (own := RL) (by decide) rfl [0, 1, 2, 3, 4] rfl tok_L_ancestor 60 ?_
  intro av s0 N h
  unfold sp_L_ancestor at h
  split at h
  rotate_left
  · exact h.elim
  obtain ⟨h60, h⟩ := h
  refine ⟨rfl, by decide, Nat.le_of_ble_eq_true rfl, _, _, h, ?_, ?_⟩
  · intro r s1 hN
    unfold hNi at hN
    split at hN
    · exact ⟨h60, ib01, Nat.le_of_ble_eq_true rfl, hN⟩
    · exact hN.elim
  · intro x s1 hX1
    by_cases q1 : x = 1
    · subst q1
      exact ⟨Nat.le_of_ble_eq_true rfl, hX1⟩
    simp [hX, hs_L_ancestor, hix, Ne.symm q1] at hX1
theorem dL_hindered_0 : decode cL_hindered 0 = .ok (.aload_n 2, 1) := by decide +kernel
theorem dL_hindered_1 : decode cL_hindered 1 = .ok (.iconst 0, 1) := by decide +kernel
theorem dL_hindered_2 : decode cL_hindered 2 = .ok (.aload_n 0, 1) := by decide +kernel
theorem dL_hindered_3 : decode cL_hindered 3 = .ok (.iload_n 1, 1) := by decide +kernel
theorem dL_hindered_4 : decode cL_hindered 4 = .ok (.invokevirtual 92, 3) := by decide +kernel
theorem dL_hindered_7 : decode cL_hindered 7 = .ok (.i2l, 1) := by decide +kernel
theorem dL_hindered_8 : decode cL_hindered 8 = .ok (.lastore, 1) := by decide +kernel
theorem dL_hindered_9 : decode cL_hindered 9 = .ok (.goto 6, 3) := by decide +kernel
theorem dL_hindered_12 : decode cL_hindered 12 = .ok (.astore_n 3, 1) := by decide +kernel
theorem dL_hindered_13 : decode cL_hindered 13 = .ok (.iconst 1, 1) := by decide +kernel
theorem dL_hindered_14 : decode cL_hindered 14 = .ok (.ireturn, 1) := by decide +kernel
theorem dL_hindered_15 : decode cL_hindered 15 = .ok (.iconst 0, 1) := by decide +kernel
theorem dL_hindered_16 : decode cL_hindered 16 = .ok (.ireturn, 1) := by decide +kernel
def hs_L_hindered : List HE := [(1, 13, 12, 3, 13)]
theorem hok_L_hindered : ∀ h ∈ hs_L_hindered, HOk RL cL_hindered 4 h := ac (⟨⟨by decide, by decide⟩, by decide, w_151, w_xc1, by decide, Or.inl ⟨3, dL_hindered_12, rfl, rfl⟩⟩) (an)
def tab_L_hindered : List (Nat × Sem) := [(0, op_al 2 1), (1, op_ic 0 2), (2, op_al 0 3), (3, op_il 1 4), (4, op_callHV 6 sp_X4_hindered 2 1 7 hs_L_hindered), (7, op_i2l 8), (8, op_last 9), (9, op_go 15), (13, op_ic 1 14), (14, op_iret), (15, op_ic 0 16), (16, op_iret)]
set_option maxRecDepth 20000 in
theorem tok_L_hindered : ∀ q ∈ tab_L_hindered, HGSnd (hTab 9 hs_L_hindered) RL cL_hindered 4 10 1 (some .int) q.1 q.2 := by
  unfold tab_L_hindered
  refine hcons (hsnd_g (hk_aload_n dL_hindered_0 rfl rfl)) ?_
  refine hcons (hsnd_g (hk_iconst dL_hindered_1 rfl rfl)) ?_
  refine hcons (hsnd_g (hk_aload_n dL_hindered_2 rfl rfl)) ?_
  refine hcons (hsnd_g (hk_iload_n dL_hindered_3 rfl rfl)) ?_
  refine hcons (hsnd_g (hk_invokevirtual M_X4_hindered hok_L_hindered (by decide) (C := RX4) (T := TX4) (nf := 8) rfl w_751 w_752 w_753 w_43 w_754 ⟨rfl, by decide, by decide, by decide +kernel⟩ (by decide) (by decide) dL_hindered_4 rfl)) ?_
  refine hcons (hsnd_g (hk_i2l dL_hindered_7 rfl)) ?_
  refine hcons (hsnd_g (hk_lastore dL_hindered_8 rfl)) ?_
  refine hcons (hsnd_g (hk_goto dL_hindered_9 rfl)) ?_
  refine hcons (hsnd_g (hk_iconst dL_hindered_13 rfl rfl)) ?_
  refine hcons (hsnd_g (hk_ireturn rfl dL_hindered_14)) ?_
  refine hcons (hsnd_g (hk_iconst dL_hindered_15 rfl rfl)) ?_
  refine hcons (hsnd_g (hk_ireturn rfl dL_hindered_16)) ?_
  exact fun _ h => nomatch h
def sp_L_hindered : Spc := fun av s N _ => match av with
  | [.inl (.inr (1, 0)), .inl (.inl p0), .inl (.inr (60, 0))] => Lv s 60 0 ∧ sp_X4_hindered [aR 1 0, aI p0] s (hNi N) (hX hs_L_hindered N)
  | _ => False
set_option maxRecDepth 20000 in
set_option maxHeartbeats 1000000 in
theorem M_L_hindered : HMet yL_hindered cL_hindered 4 (some .int) (hTab 9 hs_L_hindered) 10 1 sp_L_hindered := by
  refine HMet.mk (own := RL) (by decide) rfl [0, 1, 2, 3] rfl tok_L_hindered 60 ?_
  intro av s0 N h
  unfold sp_L_hindered at h
  split at h
  rotate_left
  · exact h.elim
  obtain ⟨h60, h⟩ := h
  refine ⟨rfl, by decide, Nat.le_of_ble_eq_true rfl, _, _, h, ?_, ?_⟩
  · intro r s1 hN
    unfold hNi at hN
    split at hN
    · exact ⟨h60, ib01, Nat.le_of_ble_eq_true rfl, hN⟩
    · exact hN.elim
  · intro x s1 hX1
    by_cases q1 : x = 1
    · subst q1
      exact ⟨Nat.le_of_ble_eq_true rfl, hX1⟩
    simp [hX, hs_L_hindered, hix, Ne.symm q1] at hX1
theorem dL_vowOf_0 : decode cL_vowOf 0 = .ok (.aload_n 3, 1) := by decide +kernel
theorem dL_vowOf_1 : decode cL_vowOf 1 = .ok (.iconst 0, 1) := by decide +kernel
theorem dL_vowOf_2 : decode cL_vowOf 2 = .ok (.aload_n 0, 1) := by decide +kernel
theorem dL_vowOf_3 : decode cL_vowOf 3 = .ok (.iload_n 1, 1) := by decide +kernel
theorem dL_vowOf_4 : decode cL_vowOf 4 = .ok (.iload_n 2, 1) := by decide +kernel
theorem dL_vowOf_5 : decode cL_vowOf 5 = .ok (.invokevirtual 95, 3) := by decide +kernel
theorem dL_vowOf_8 : decode cL_vowOf 8 = .ok (.i2l, 1) := by decide +kernel
theorem dL_vowOf_9 : decode cL_vowOf 9 = .ok (.lastore, 1) := by decide +kernel
theorem dL_vowOf_10 : decode cL_vowOf 10 = .ok (.goto 11, 3) := by decide +kernel
theorem dL_vowOf_13 : decode cL_vowOf 13 = .ok (.astore 4, 2) := by decide +kernel
theorem dL_vowOf_15 : decode cL_vowOf 15 = .ok (.iconst 1, 1) := by decide +kernel
theorem dL_vowOf_16 : decode cL_vowOf 16 = .ok (.ireturn, 1) := by decide +kernel
theorem dL_vowOf_17 : decode cL_vowOf 17 = .ok (.astore 4, 2) := by decide +kernel
theorem dL_vowOf_19 : decode cL_vowOf 19 = .ok (.iconst 2, 1) := by decide +kernel
theorem dL_vowOf_20 : decode cL_vowOf 20 = .ok (.ireturn, 1) := by decide +kernel
theorem dL_vowOf_21 : decode cL_vowOf 21 = .ok (.iconst 0, 1) := by decide +kernel
theorem dL_vowOf_22 : decode cL_vowOf 22 = .ok (.ireturn, 1) := by decide +kernel
def hs_L_vowOf : List HE := [(1, 13, 13, 4, 15), (2, 15, 17, 4, 19)]
theorem hok_L_vowOf : ∀ h ∈ hs_L_vowOf, HOk RL cL_vowOf 5 h := ac (⟨⟨by decide, by decide⟩, by decide, w_151, w_xc1, by decide, Or.inr ⟨dL_vowOf_13, rfl⟩⟩) (ac (⟨⟨by decide, by decide⟩, by decide, w_152, w_xc2, by decide, Or.inr ⟨dL_vowOf_17, rfl⟩⟩) (an))
def tab_L_vowOf : List (Nat × Sem) := [(0, op_al 3 1), (1, op_ic 0 2), (2, op_al 0 3), (3, op_il 1 4), (4, op_il 2 5), (5, op_callHV 6 sp_X4_vowOf 3 2 8 hs_L_vowOf), (8, op_i2l 9), (9, op_last 10), (10, op_go 21), (15, op_ic 1 16), (16, op_iret), (19, op_ic 2 20), (20, op_iret), (21, op_ic 0 22), (22, op_iret)]
set_option maxRecDepth 20000 in
theorem tok_L_vowOf : ∀ q ∈ tab_L_vowOf, HGSnd (hTab 10 hs_L_vowOf) RL cL_vowOf 5 9 2 (some .int) q.1 q.2 := by
  unfold tab_L_vowOf
  refine hcons (hsnd_g (hk_aload_n dL_vowOf_0 rfl rfl)) ?_
  refine hcons (hsnd_g (hk_iconst dL_vowOf_1 rfl rfl)) ?_
  refine hcons (hsnd_g (hk_aload_n dL_vowOf_2 rfl rfl)) ?_
  refine hcons (hsnd_g (hk_iload_n dL_vowOf_3 rfl rfl)) ?_
  refine hcons (hsnd_g (hk_iload_n dL_vowOf_4 rfl rfl)) ?_
  refine hcons (hsnd_g (hk_invokevirtual M_X4_vowOf hok_L_vowOf (by decide) (C := RX4) (T := TX4) (nf := 8) rfl w_758 w_759 w_760 w_43 w_761 ⟨rfl, by decide, by decide, by decide +kernel⟩ (by decide) (by decide) dL_vowOf_5 rfl)) ?_
  refine hcons (hsnd_g (hk_i2l dL_vowOf_8 rfl)) ?_
  refine hcons (hsnd_g (hk_lastore dL_vowOf_9 rfl)) ?_
  refine hcons (hsnd_g (hk_goto dL_vowOf_10 rfl)) ?_
  refine hcons (hsnd_g (hk_iconst dL_vowOf_15 rfl rfl)) ?_
  refine hcons (hsnd_g (hk_ireturn rfl dL_vowOf_16)) ?_
  refine hcons (hsnd_g (hk_iconst dL_vowOf_19 rfl rfl)) ?_
  refine hcons (hsnd_g (hk_ireturn rfl dL_vowOf_20)) ?_
  refine hcons (hsnd_g (hk_iconst dL_vowOf_21 rfl rfl)) ?_
  refine hcons (hsnd_g (hk_ireturn rfl dL_vowOf_22)) ?_
  exact fun _ h => nomatch h
def sp_L_vowOf : Spc := fun av s N _ => match av with
  | [.inl (.inr (1, 0)), .inl (.inl p0), .inl (.inl p1), .inl (.inr (60, 0))] => Lv s 60 0 ∧ sp_X4_vowOf [aR 1 0, aI p0, aI p1] s (hNi N) (hX hs_L_vowOf N)
  | _ => False
set_option maxRecDepth 20000 in
set_option maxHeartbeats 1000000 in
theorem M_L_vowOf : HMet yL_vowOf cL_vowOf 5 (some .int) (hTab 10 hs_L_vowOf) 9 2 sp_L_vowOf := by
  refine HMet.mk (own := RL) (by decide) rfl [0, 1, 2, 3, 4] rfl tok_L_vowOf 60 ?_
  intro av s0 N h
  unfold sp_L_vowOf at h
  split at h
  rotate_left
  · exact h.elim
  obtain ⟨h60, h⟩ := h
  refine ⟨rfl, by decide, Nat.le_of_ble_eq_true rfl, _, _, h, ?_, ?_⟩
  · intro r s1 hN
    unfold hNi at hN
    split at hN
    · exact ⟨h60, ib01, Nat.le_of_ble_eq_true rfl, hN⟩
    · exact hN.elim
  · intro x s1 hX1
    by_cases q1 : x = 1
    · subst q1
      exact ⟨Nat.le_of_ble_eq_true rfl, hX1⟩
    by_cases q2 : x = 2
    · subst q2
      exact ⟨Nat.le_of_ble_eq_true rfl, hX1⟩
    simp [hX, hs_L_vowOf, hix, Ne.symm q1, Ne.symm q2] at hX1
theorem dL_bound_0 : decode cL_bound 0 = .ok (.aload_n 3, 1) := by decide +kernel
theorem dL_bound_1 : decode cL_bound 1 = .ok (.iconst 0, 1) := by decide +kernel
theorem dL_bound_2 : decode cL_bound 2 = .ok (.aload_n 0, 1) := by decide +kernel
theorem dL_bound_3 : decode cL_bound 3 = .ok (.iload_n 1, 1) := by decide +kernel
theorem dL_bound_4 : decode cL_bound 4 = .ok (.iload_n 2, 1) := by decide +kernel
theorem dL_bound_5 : decode cL_bound 5 = .ok (.invokevirtual 98, 3) := by decide +kernel
theorem dL_bound_8 : decode cL_bound 8 = .ok (.i2l, 1) := by decide +kernel
theorem dL_bound_9 : decode cL_bound 9 = .ok (.lastore, 1) := by decide +kernel
theorem dL_bound_10 : decode cL_bound 10 = .ok (.goto 11, 3) := by decide +kernel
theorem dL_bound_13 : decode cL_bound 13 = .ok (.astore 4, 2) := by decide +kernel
theorem dL_bound_15 : decode cL_bound 15 = .ok (.iconst 1, 1) := by decide +kernel
theorem dL_bound_16 : decode cL_bound 16 = .ok (.ireturn, 1) := by decide +kernel
theorem dL_bound_17 : decode cL_bound 17 = .ok (.astore 4, 2) := by decide +kernel
theorem dL_bound_19 : decode cL_bound 19 = .ok (.iconst 2, 1) := by decide +kernel
theorem dL_bound_20 : decode cL_bound 20 = .ok (.ireturn, 1) := by decide +kernel
theorem dL_bound_21 : decode cL_bound 21 = .ok (.iconst 0, 1) := by decide +kernel
theorem dL_bound_22 : decode cL_bound 22 = .ok (.ireturn, 1) := by decide +kernel
def hs_L_bound : List HE := [(1, 13, 13, 4, 15), (2, 15, 17, 4, 19)]
theorem hok_L_bound : ∀ h ∈ hs_L_bound, HOk RL cL_bound 5 h := ac (⟨⟨by decide, by decide⟩, by decide, w_151, w_xc1, by decide, Or.inr ⟨dL_bound_13, rfl⟩⟩) (ac (⟨⟨by decide, by decide⟩, by decide, w_152, w_xc2, by decide, Or.inr ⟨dL_bound_17, rfl⟩⟩) (an))
def tab_L_bound : List (Nat × Sem) := [(0, op_al 3 1), (1, op_ic 0 2), (2, op_al 0 3), (3, op_il 1 4), (4, op_il 2 5), (5, op_callHV 6 sp_X4_bound 3 2 8 hs_L_bound), (8, op_i2l 9), (9, op_last 10), (10, op_go 21), (15, op_ic 1 16), (16, op_iret), (19, op_ic 2 20), (20, op_iret), (21, op_ic 0 22), (22, op_iret)]
set_option maxRecDepth 20000 in
theorem tok_L_bound : ∀ q ∈ tab_L_bound, HGSnd (hTab 10 hs_L_bound) RL cL_bound 5 8 2 (some .int) q.1 q.2 := by
  unfold tab_L_bound
  refine hcons (hsnd_g (hk_aload_n dL_bound_0 rfl rfl)) ?_
  refine hcons (hsnd_g (hk_iconst dL_bound_1 rfl rfl)) ?_
  refine hcons (hsnd_g (hk_aload_n dL_bound_2 rfl rfl)) ?_
  refine hcons (hsnd_g (hk_iload_n dL_bound_3 rfl rfl)) ?_
  refine hcons (hsnd_g (hk_iload_n dL_bound_4 rfl rfl)) ?_
  refine hcons (hsnd_g (hk_invokevirtual M_X4_bound hok_L_bound (by decide) (C := RX4) (T := TX4) (nf := 8) rfl w_765 w_766 w_767 w_43 w_768 ⟨rfl, by decide, by decide, by decide +kernel⟩ (by decide) (by decide) dL_bound_5 rfl)) ?_
  refine hcons (hsnd_g (hk_i2l dL_bound_8 rfl)) ?_
  refine hcons (hsnd_g (hk_lastore dL_bound_9 rfl)) ?_
  refine hcons (hsnd_g (hk_goto dL_bound_10 rfl)) ?_
  refine hcons (hsnd_g (hk_iconst dL_bound_15 rfl rfl)) ?_
  refine hcons (hsnd_g (hk_ireturn rfl dL_bound_16)) ?_
  refine hcons (hsnd_g (hk_iconst dL_bound_19 rfl rfl)) ?_
  refine hcons (hsnd_g (hk_ireturn rfl dL_bound_20)) ?_
  refine hcons (hsnd_g (hk_iconst dL_bound_21 rfl rfl)) ?_
  refine hcons (hsnd_g (hk_ireturn rfl dL_bound_22)) ?_
  exact fun _ h => nomatch h
def sp_L_bound : Spc := fun av s N _ => match av with
  | [.inl (.inr (1, 0)), .inl (.inl p0), .inl (.inl p1), .inl (.inr (60, 0))] => Lv s 60 0 ∧ sp_X4_bound [aR 1 0, aI p0, aI p1] s (hNi N) (hX hs_L_bound N)
  | _ => False
set_option maxRecDepth 20000 in
set_option maxHeartbeats 1000000 in
theorem M_L_bound : HMet yL_bound cL_bound 5 (some .int) (hTab 10 hs_L_bound) 8 2 sp_L_bound := by
  refine HMet.mk (own := RL) (by decide) rfl [0, 1, 2, 3, 4] rfl tok_L_bound 60 ?_
  intro av s0 N h
  unfold sp_L_bound at h
  split at h
  rotate_left
  · exact h.elim
  obtain ⟨h60, h⟩ := h
  refine ⟨rfl, by decide, Nat.le_of_ble_eq_true rfl, _, _, h, ?_, ?_⟩
  · intro r s1 hN
    unfold hNi at hN
    split at hN
    · exact ⟨h60, ib01, Nat.le_of_ble_eq_true rfl, hN⟩
    · exact hN.elim
  · intro x s1 hX1
    by_cases q1 : x = 1
    · subst q1
      exact ⟨Nat.le_of_ble_eq_true rfl, hX1⟩
    by_cases q2 : x = 2
    · subst q2
      exact ⟨Nat.le_of_ble_eq_true rfl, hX1⟩
    simp [hX, hs_L_bound, hix, Ne.symm q1, Ne.symm q2] at hX1
theorem dL_hasCause_0 : decode cL_hasCause 0 = .ok (.aload_n 3, 1) := by decide +kernel
theorem dL_hasCause_1 : decode cL_hasCause 1 = .ok (.iconst 0, 1) := by decide +kernel
theorem dL_hasCause_2 : decode cL_hasCause 2 = .ok (.aload_n 0, 1) := by decide +kernel
theorem dL_hasCause_3 : decode cL_hasCause 3 = .ok (.iload_n 1, 1) := by decide +kernel
theorem dL_hasCause_4 : decode cL_hasCause 4 = .ok (.iload_n 2, 1) := by decide +kernel
theorem dL_hasCause_5 : decode cL_hasCause 5 = .ok (.invokevirtual 101, 3) := by decide +kernel
theorem dL_hasCause_8 : decode cL_hasCause 8 = .ok (.ifCond .eq 7, 3) := by decide +kernel
theorem dL_hasCause_11 : decode cL_hasCause 11 = .ok (.lconst 1, 1) := by decide +kernel
theorem dL_hasCause_12 : decode cL_hasCause 12 = .ok (.goto 4, 3) := by decide +kernel
theorem dL_hasCause_15 : decode cL_hasCause 15 = .ok (.lconst 0, 1) := by decide +kernel
theorem dL_hasCause_16 : decode cL_hasCause 16 = .ok (.lastore, 1) := by decide +kernel
theorem dL_hasCause_17 : decode cL_hasCause 17 = .ok (.goto 11, 3) := by decide +kernel
theorem dL_hasCause_20 : decode cL_hasCause 20 = .ok (.astore 4, 2) := by decide +kernel
theorem dL_hasCause_22 : decode cL_hasCause 22 = .ok (.iconst 1, 1) := by decide +kernel
theorem dL_hasCause_23 : decode cL_hasCause 23 = .ok (.ireturn, 1) := by decide +kernel
theorem dL_hasCause_24 : decode cL_hasCause 24 = .ok (.astore 4, 2) := by decide +kernel
theorem dL_hasCause_26 : decode cL_hasCause 26 = .ok (.iconst 2, 1) := by decide +kernel
theorem dL_hasCause_27 : decode cL_hasCause 27 = .ok (.ireturn, 1) := by decide +kernel
theorem dL_hasCause_28 : decode cL_hasCause 28 = .ok (.iconst 0, 1) := by decide +kernel
theorem dL_hasCause_29 : decode cL_hasCause 29 = .ok (.ireturn, 1) := by decide +kernel
def hs_L_hasCause : List HE := [(1, 13, 20, 4, 22), (2, 15, 24, 4, 26)]
theorem hok_L_hasCause : ∀ h ∈ hs_L_hasCause, HOk RL cL_hasCause 5 h := ac (⟨⟨by decide, by decide⟩, by decide, w_151, w_xc1, by decide, Or.inr ⟨dL_hasCause_20, rfl⟩⟩) (ac (⟨⟨by decide, by decide⟩, by decide, w_152, w_xc2, by decide, Or.inr ⟨dL_hasCause_24, rfl⟩⟩) (an))
def tab_L_hasCause : List (Nat × Sem) := [(0, op_al 3 1), (1, op_ic 0 2), (2, op_al 0 3), (3, op_il 1 4), (4, op_il 2 5), (5, op_callHV 6 sp_X4_hasCause 3 4 8 hs_L_hasCause), (8, op_if (fun x => x = 0) 15 11), (11, op_lc 1 12), (12, op_go 16), (15, op_lc 0 16), (16, op_last 17), (17, op_go 28), (22, op_ic 1 23), (23, op_iret), (26, op_ic 2 27), (27, op_iret), (28, op_ic 0 29), (29, op_iret)]
set_option maxRecDepth 20000 in
theorem tok_L_hasCause : ∀ q ∈ tab_L_hasCause, HGSnd (hTab 17 hs_L_hasCause) RL cL_hasCause 5 11 4 (some .int) q.1 q.2 := by
  unfold tab_L_hasCause
  refine hcons (hsnd_g (hk_aload_n dL_hasCause_0 rfl rfl)) ?_
  refine hcons (hsnd_g (hk_iconst dL_hasCause_1 rfl rfl)) ?_
  refine hcons (hsnd_g (hk_aload_n dL_hasCause_2 rfl rfl)) ?_
  refine hcons (hsnd_g (hk_iload_n dL_hasCause_3 rfl rfl)) ?_
  refine hcons (hsnd_g (hk_iload_n dL_hasCause_4 rfl rfl)) ?_
  refine hcons (hsnd_g (hk_invokevirtual M_X4_hasCause hok_L_hasCause (by decide) (C := RX4) (T := TX4) (nf := 8) rfl w_776 w_777 w_778 w_43 w_779 ⟨rfl, by decide, by decide, by decide +kernel⟩ (by decide) (by decide) dL_hasCause_5 rfl)) ?_
  refine hcons (hsnd_g (hk_if_eq dL_hasCause_8 rfl rfl)) ?_
  refine hcons (hsnd_g (hk_lconst dL_hasCause_11 rfl rfl)) ?_
  refine hcons (hsnd_g (hk_goto dL_hasCause_12 rfl)) ?_
  refine hcons (hsnd_g (hk_lconst dL_hasCause_15 rfl rfl)) ?_
  refine hcons (hsnd_g (hk_lastore dL_hasCause_16 rfl)) ?_
  refine hcons (hsnd_g (hk_goto dL_hasCause_17 rfl)) ?_
  refine hcons (hsnd_g (hk_iconst dL_hasCause_22 rfl rfl)) ?_
  refine hcons (hsnd_g (hk_ireturn rfl dL_hasCause_23)) ?_
  refine hcons (hsnd_g (hk_iconst dL_hasCause_26 rfl rfl)) ?_
  refine hcons (hsnd_g (hk_ireturn rfl dL_hasCause_27)) ?_
  refine hcons (hsnd_g (hk_iconst dL_hasCause_28 rfl rfl)) ?_
  refine hcons (hsnd_g (hk_ireturn rfl dL_hasCause_29)) ?_
  exact fun _ h => nomatch h
def sp_L_hasCause : Spc := fun av s N _ => match av with
  | [.inl (.inr (1, 0)), .inl (.inl p0), .inl (.inl p1), .inl (.inr (60, 0))] => Lv s 60 0 ∧ sp_X4_hasCause [aR 1 0, aI p0, aI p1] s (hNz N) (hX hs_L_hasCause N)
  | _ => False
set_option maxRecDepth 20000 in
set_option maxHeartbeats 1000000 in
theorem M_L_hasCause : HMet yL_hasCause cL_hasCause 5 (some .int) (hTab 17 hs_L_hasCause) 11 4 sp_L_hasCause := by
  refine HMet.mk (own := RL) (by decide) rfl [0, 1, 2, 3, 4] rfl tok_L_hasCause 60 ?_
  intro av s0 N h
  unfold sp_L_hasCause at h
  split at h
  rotate_left
  · exact h.elim
  obtain ⟨h60, h⟩ := h
  refine ⟨rfl, by decide, Nat.le_of_ble_eq_true rfl, _, _, h, ?_, ?_⟩
  · intro r s1 hN
    unfold hNz at hN
    split at hN
    · exact ⟨fun q => ⟨h60, ib01, Nat.le_of_ble_eq_true rfl, hN.2 q⟩, fun q => ⟨h60, ib01, Nat.le_of_ble_eq_true rfl, hN.1 q⟩⟩
    · exact hN.elim
  · intro x s1 hX1
    by_cases q1 : x = 1
    · subst q1
      exact ⟨Nat.le_of_ble_eq_true rfl, hX1⟩
    by_cases q2 : x = 2
    · subst q2
      exact ⟨Nat.le_of_ble_eq_true rfl, hX1⟩
    simp [hX, hs_L_hasCause, hix, Ne.symm q1, Ne.symm q2] at hX1
theorem dL_causeOf_0 : decode cL_causeOf 0 = .ok (.aload_n 3, 1) := by decide +kernel
theorem dL_causeOf_1 : decode cL_causeOf 1 = .ok (.iconst 0, 1) := by decide +kernel
theorem dL_causeOf_2 : decode cL_causeOf 2 = .ok (.aload_n 0, 1) := by decide +kernel
theorem dL_causeOf_3 : decode cL_causeOf 3 = .ok (.iload_n 1, 1) := by decide +kernel
theorem dL_causeOf_4 : decode cL_causeOf 4 = .ok (.iload_n 2, 1) := by decide +kernel
theorem dL_causeOf_5 : decode cL_causeOf 5 = .ok (.invokevirtual 105, 3) := by decide +kernel
theorem dL_causeOf_8 : decode cL_causeOf 8 = .ok (.i2l, 1) := by decide +kernel
theorem dL_causeOf_9 : decode cL_causeOf 9 = .ok (.lastore, 1) := by decide +kernel
theorem dL_causeOf_10 : decode cL_causeOf 10 = .ok (.goto 11, 3) := by decide +kernel
theorem dL_causeOf_13 : decode cL_causeOf 13 = .ok (.astore 4, 2) := by decide +kernel
theorem dL_causeOf_15 : decode cL_causeOf 15 = .ok (.iconst 1, 1) := by decide +kernel
theorem dL_causeOf_16 : decode cL_causeOf 16 = .ok (.ireturn, 1) := by decide +kernel
theorem dL_causeOf_17 : decode cL_causeOf 17 = .ok (.astore 4, 2) := by decide +kernel
theorem dL_causeOf_19 : decode cL_causeOf 19 = .ok (.iconst 2, 1) := by decide +kernel
theorem dL_causeOf_20 : decode cL_causeOf 20 = .ok (.ireturn, 1) := by decide +kernel
theorem dL_causeOf_21 : decode cL_causeOf 21 = .ok (.iconst 0, 1) := by decide +kernel
theorem dL_causeOf_22 : decode cL_causeOf 22 = .ok (.ireturn, 1) := by decide +kernel
def hs_L_causeOf : List HE := [(1, 13, 13, 4, 15), (2, 15, 17, 4, 19)]
theorem hok_L_causeOf : ∀ h ∈ hs_L_causeOf, HOk RL cL_causeOf 5 h := ac (⟨⟨by decide, by decide⟩, by decide, w_151, w_xc1, by decide, Or.inr ⟨dL_causeOf_13, rfl⟩⟩) (ac (⟨⟨by decide, by decide⟩, by decide, w_152, w_xc2, by decide, Or.inr ⟨dL_causeOf_17, rfl⟩⟩) (an))
def tab_L_causeOf : List (Nat × Sem) := [(0, op_al 3 1), (1, op_ic 0 2), (2, op_al 0 3), (3, op_il 1 4), (4, op_il 2 5), (5, op_callHV 6 sp_X4_causeOf 3 2 8 hs_L_causeOf), (8, op_i2l 9), (9, op_last 10), (10, op_go 21), (15, op_ic 1 16), (16, op_iret), (19, op_ic 2 20), (20, op_iret), (21, op_ic 0 22), (22, op_iret)]
set_option maxRecDepth 20000 in
theorem tok_L_causeOf : ∀ q ∈ tab_L_causeOf, HGSnd (hTab 10 hs_L_causeOf) RL cL_causeOf 5 9 2 (some .int) q.1 q.2 := by
  unfold tab_L_causeOf
  refine hcons (hsnd_g (hk_aload_n dL_causeOf_0 rfl rfl)) ?_
  refine hcons (hsnd_g (hk_iconst dL_causeOf_1 rfl rfl)) ?_
  refine hcons (hsnd_g (hk_aload_n dL_causeOf_2 rfl rfl)) ?_
  refine hcons (hsnd_g (hk_iload_n dL_causeOf_3 rfl rfl)) ?_
  refine hcons (hsnd_g (hk_iload_n dL_causeOf_4 rfl rfl)) ?_
  refine hcons (hsnd_g (hk_invokevirtual M_X4_causeOf hok_L_causeOf (by decide) (C := RX4) (T := TX4) (nf := 8) rfl w_783 w_784 w_785 w_43 w_786 ⟨rfl, by decide, by decide, by decide +kernel⟩ (by decide) (by decide) dL_causeOf_5 rfl)) ?_
  refine hcons (hsnd_g (hk_i2l dL_causeOf_8 rfl)) ?_
  refine hcons (hsnd_g (hk_lastore dL_causeOf_9 rfl)) ?_
  refine hcons (hsnd_g (hk_goto dL_causeOf_10 rfl)) ?_
  refine hcons (hsnd_g (hk_iconst dL_causeOf_15 rfl rfl)) ?_
  refine hcons (hsnd_g (hk_ireturn rfl dL_causeOf_16)) ?_
  refine hcons (hsnd_g (hk_iconst dL_causeOf_19 rfl rfl)) ?_
  refine hcons (hsnd_g (hk_ireturn rfl dL_causeOf_20)) ?_
  refine hcons (hsnd_g (hk_iconst dL_causeOf_21 rfl rfl)) ?_
  refine hcons (hsnd_g (hk_ireturn rfl dL_causeOf_22)) ?_
  exact fun _ h => nomatch h
def sp_L_causeOf : Spc := fun av s N _ => match av with
  | [.inl (.inr (1, 0)), .inl (.inl p0), .inl (.inl p1), .inl (.inr (60, 0))] => Lv s 60 0 ∧ sp_X4_causeOf [aR 1 0, aI p0, aI p1] s (hNi N) (hX hs_L_causeOf N)
  | _ => False
set_option maxRecDepth 20000 in
set_option maxHeartbeats 1000000 in
theorem M_L_causeOf : HMet yL_causeOf cL_causeOf 5 (some .int) (hTab 10 hs_L_causeOf) 9 2 sp_L_causeOf := by
  refine HMet.mk (own := RL) (by decide) rfl [0, 1, 2, 3, 4] rfl tok_L_causeOf 60 ?_
  intro av s0 N h
  unfold sp_L_causeOf at h
  split at h
  rotate_left
  · exact h.elim
  obtain ⟨h60, h⟩ := h
  refine ⟨rfl, by decide, Nat.le_of_ble_eq_true rfl, _, _, h, ?_, ?_⟩
  · intro r s1 hN
    unfold hNi at hN
    split at hN
    · exact ⟨h60, ib01, Nat.le_of_ble_eq_true rfl, hN⟩
    · exact hN.elim
  · intro x s1 hX1
    by_cases q1 : x = 1
    · subst q1
      exact ⟨Nat.le_of_ble_eq_true rfl, hX1⟩
    by_cases q2 : x = 2
    · subst q2
      exact ⟨Nat.le_of_ble_eq_true rfl, hX1⟩
    simp [hX, hs_L_causeOf, hix, Ne.symm q1, Ne.symm q2] at hX1
theorem dL_state_0 : decode cL_state 0 = .ok (.aload 4, 2) := by decide +kernel
theorem dL_state_2 : decode cL_state 2 = .ok (.iconst 0, 1) := by decide +kernel
theorem dL_state_3 : decode cL_state 3 = .ok (.aload_n 0, 1) := by decide +kernel
theorem dL_state_4 : decode cL_state 4 = .ok (.iload_n 1, 1) := by decide +kernel
theorem dL_state_5 : decode cL_state 5 = .ok (.iload_n 2, 1) := by decide +kernel
theorem dL_state_6 : decode cL_state 6 = .ok (.iload_n 3, 1) := by decide +kernel
theorem dL_state_7 : decode cL_state 7 = .ok (.invokevirtual 108, 3) := by decide +kernel
theorem dL_state_10 : decode cL_state 10 = .ok (.i2l, 1) := by decide +kernel
theorem dL_state_11 : decode cL_state 11 = .ok (.lastore, 1) := by decide +kernel
theorem dL_state_12 : decode cL_state 12 = .ok (.goto 11, 3) := by decide +kernel
theorem dL_state_15 : decode cL_state 15 = .ok (.astore 5, 2) := by decide +kernel
theorem dL_state_17 : decode cL_state 17 = .ok (.iconst 1, 1) := by decide +kernel
theorem dL_state_18 : decode cL_state 18 = .ok (.ireturn, 1) := by decide +kernel
theorem dL_state_19 : decode cL_state 19 = .ok (.astore 5, 2) := by decide +kernel
theorem dL_state_21 : decode cL_state 21 = .ok (.iconst 2, 1) := by decide +kernel
theorem dL_state_22 : decode cL_state 22 = .ok (.ireturn, 1) := by decide +kernel
theorem dL_state_23 : decode cL_state 23 = .ok (.iconst 0, 1) := by decide +kernel
theorem dL_state_24 : decode cL_state 24 = .ok (.ireturn, 1) := by decide +kernel
def hs_L_state : List HE := [(1, 13, 15, 5, 17), (2, 15, 19, 5, 21)]
theorem hok_L_state : ∀ h ∈ hs_L_state, HOk RL cL_state 6 h := ac (⟨⟨by decide, by decide⟩, by decide, w_151, w_xc1, by decide, Or.inr ⟨dL_state_15, rfl⟩⟩) (ac (⟨⟨by decide, by decide⟩, by decide, w_152, w_xc2, by decide, Or.inr ⟨dL_state_19, rfl⟩⟩) (an))
def tab_L_state : List (Nat × Sem) := [(0, op_al 4 2), (2, op_ic 0 3), (3, op_al 0 4), (4, op_il 1 5), (5, op_il 2 6), (6, op_il 3 7), (7, op_callHGV 6 sp_X4_state 4 18 10 hs_L_state), (10, op_i2l 11), (11, op_last 12), (12, op_go 23), (17, op_ic 1 18), (18, op_iret), (21, op_ic 2 22), (22, op_iret), (23, op_ic 0 24), (24, op_iret)]
set_option maxRecDepth 20000 in
theorem tok_L_state : ∀ q ∈ tab_L_state, HGSnd (hTab 12 hs_L_state) RL cL_state 6 10 18 (some .int) q.1 q.2 := by
  unfold tab_L_state
  refine hcons (hsnd_g (hk_aload dL_state_0 rfl)) ?_
  refine hcons (hsnd_g (hk_iconst dL_state_2 rfl rfl)) ?_
  refine hcons (hsnd_g (hk_aload_n dL_state_3 rfl rfl)) ?_
  refine hcons (hsnd_g (hk_iload_n dL_state_4 rfl rfl)) ?_
  refine hcons (hsnd_g (hk_iload_n dL_state_5 rfl rfl)) ?_
  refine hcons (hsnd_g (hk_iload_n dL_state_6 rfl rfl)) ?_
  refine hcons (hk_invokevirtualG M_X4_state hok_L_state (by decide) (C := RX4) (T := TX4) (nf := 8) rfl w_790 w_791 w_792 w_43 w_793 ⟨rfl, by decide, by decide, by decide +kernel⟩ (by decide) (by decide) dL_state_7 rfl) ?_
  refine hcons (hsnd_g (hk_i2l dL_state_10 rfl)) ?_
  refine hcons (hsnd_g (hk_lastore dL_state_11 rfl)) ?_
  refine hcons (hsnd_g (hk_goto dL_state_12 rfl)) ?_
  refine hcons (hsnd_g (hk_iconst dL_state_17 rfl rfl)) ?_
  refine hcons (hsnd_g (hk_ireturn rfl dL_state_18)) ?_
  refine hcons (hsnd_g (hk_iconst dL_state_21 rfl rfl)) ?_
  refine hcons (hsnd_g (hk_ireturn rfl dL_state_22)) ?_
  refine hcons (hsnd_g (hk_iconst dL_state_23 rfl rfl)) ?_
  refine hcons (hsnd_g (hk_ireturn rfl dL_state_24)) ?_
  exact fun _ h => nomatch h
def sp_L_state : Spc := fun av s N _ => match av with
  | [.inl (.inr (1, 0)), .inl (.inl p0), .inl (.inl p1), .inl (.inl p2), .inl (.inr (60, 0))] => Lv s 60 0 ∧ sp_X4_state [aR 1 0, aI p0, aI p1, aI p2] s (hNi N) (hX hs_L_state N)
  | _ => False
set_option maxRecDepth 20000 in
set_option maxHeartbeats 1000000 in
theorem M_L_state : HMet yL_state cL_state 6 (some .int) (hTab 12 hs_L_state) 10 18 sp_L_state := by
  refine HMet.mk (own := RL) (by decide) rfl [0, 1, 2, 3, 4, 5] rfl tok_L_state 60 ?_
  intro av s0 N h
  unfold sp_L_state at h
  split at h
  rotate_left
  · exact h.elim
  obtain ⟨h60, h⟩ := h
  refine ⟨rfl, by decide, Nat.le_of_ble_eq_true rfl, ⟨rfl, trivial⟩, rfl, rfl, _, _, h, ?_, ?_⟩
  · intro r s1 hN
    unfold hNi at hN
    split at hN
    · exact ⟨h60, ib01, Nat.le_of_ble_eq_true rfl, hN⟩
    · exact hN.elim
  · intro x s1 hX1
    by_cases q1 : x = 1
    · subst q1
      exact ⟨Nat.le_of_ble_eq_true rfl, hX1⟩
    by_cases q2 : x = 2
    · subst q2
      exact ⟨Nat.le_of_ble_eq_true rfl, hX1⟩
    simp [hX, hs_L_state, hix, Ne.symm q1, Ne.symm q2] at hX1

