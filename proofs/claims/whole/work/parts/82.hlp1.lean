/-! the law's helpers -/
theorem ib01 : Ib 0 1 := nIb (k := 0) (by decide) (by decide)
theorem dL_person_0 : decode cL_person 0 = .ok (.aload 5, 2) := by decide +kernel
theorem dL_person_2 : decode cL_person 2 = .ok (.iconst 0, 1) := by decide +kernel
theorem dL_person_3 : decode cL_person 3 = .ok (.aload_n 0, 1) := by decide +kernel
theorem dL_person_4 : decode cL_person 4 = .ok (.iload_n 1, 1) := by decide +kernel
theorem dL_person_5 : decode cL_person 5 = .ok (.iload_n 2, 1) := by decide +kernel
theorem dL_person_6 : decode cL_person 6 = .ok (.iload_n 3, 1) := by decide +kernel
theorem dL_person_7 : decode cL_person 7 = .ok (.iload 4, 2) := by decide +kernel
theorem dL_person_9 : decode cL_person 9 = .ok (.invokevirtual 7, 3) := by decide +kernel
theorem dL_person_12 : decode cL_person 12 = .ok (.i2l, 1) := by decide +kernel
theorem dL_person_13 : decode cL_person 13 = .ok (.lastore, 1) := by decide +kernel
theorem dL_person_14 : decode cL_person 14 = .ok (.goto 15, 3) := by decide +kernel
theorem dL_person_17 : decode cL_person 17 = .ok (.astore 6, 2) := by decide +kernel
theorem dL_person_19 : decode cL_person 19 = .ok (.iconst 1, 1) := by decide +kernel
theorem dL_person_20 : decode cL_person 20 = .ok (.ireturn, 1) := by decide +kernel
theorem dL_person_21 : decode cL_person 21 = .ok (.astore 6, 2) := by decide +kernel
theorem dL_person_23 : decode cL_person 23 = .ok (.iconst 2, 1) := by decide +kernel
theorem dL_person_24 : decode cL_person 24 = .ok (.ireturn, 1) := by decide +kernel
theorem dL_person_25 : decode cL_person 25 = .ok (.astore 6, 2) := by decide +kernel
theorem dL_person_27 : decode cL_person 27 = .ok (.iconst 3, 1) := by decide +kernel
theorem dL_person_28 : decode cL_person 28 = .ok (.ireturn, 1) := by decide +kernel
theorem dL_person_29 : decode cL_person 29 = .ok (.iconst 0, 1) := by decide +kernel
theorem dL_person_30 : decode cL_person 30 = .ok (.ireturn, 1) := by decide +kernel
def hs_L_person : List HE := [(1, 13, 17, 6, 19), (2, 15, 21, 6, 23), (3, 17, 25, 6, 27)]
theorem hok_L_person : ∀ h ∈ hs_L_person, HOk RL cL_person 7 h := ac (⟨⟨by decide, by decide⟩, by decide, w_151, w_xc1, by decide, Or.inr ⟨dL_person_17, rfl⟩⟩) (ac (⟨⟨by decide, by decide⟩, by decide, w_152, w_xc2, by decide, Or.inr ⟨dL_person_21, rfl⟩⟩) (ac (⟨⟨by decide, by decide⟩, by decide, w_153, w_xc3, by decide, Or.inr ⟨dL_person_25, rfl⟩⟩) (an)))
def tab_L_person : List (Nat × Sem) := [(0, op_al 5 2), (2, op_ic 0 3), (3, op_al 0 4), (4, op_il 1 5), (5, op_il 2 6), (6, op_il 3 7), (7, op_il 4 9), (9, op_callHGV 6 sp_X4_person 5 9 12 hs_L_person), (12, op_i2l 13), (13, op_last 14), (14, op_go 29), (19, op_ic 1 20), (20, op_iret), (23, op_ic 2 24), (24, op_iret), (27, op_ic 3 28), (28, op_iret), (29, op_ic 0 30), (30, op_iret)]
set_option maxRecDepth 20000 in
theorem tok_L_person : ∀ q ∈ tab_L_person, HGSnd (hTab 14 hs_L_person) RL cL_person 7 8 9 (some .int) q.1 q.2 := by
  unfold tab_L_person
  refine hcons (hsnd_g (hk_aload dL_person_0 rfl)) ?_
  refine hcons (hsnd_g (hk_iconst dL_person_2 rfl rfl)) ?_
  refine hcons (hsnd_g (hk_aload_n dL_person_3 rfl rfl)) ?_
  refine hcons (hsnd_g (hk_iload_n dL_person_4 rfl rfl)) ?_
  refine hcons (hsnd_g (hk_iload_n dL_person_5 rfl rfl)) ?_
  refine hcons (hsnd_g (hk_iload_n dL_person_6 rfl rfl)) ?_
  refine hcons (hsnd_g (hk_iload dL_person_7 rfl)) ?_
  refine hcons (hk_invokevirtualG M_X4_person hok_L_person (by decide) (C := RX4) (T := TX4) (nf := 8) rfl w_154 w_155 w_156 w_43 w_157 ⟨rfl, by decide, by decide, by decide +kernel⟩ (by decide) (by decide) dL_person_9 rfl) ?_
  refine hcons (hsnd_g (hk_i2l dL_person_12 rfl)) ?_
  refine hcons (hsnd_g (hk_lastore dL_person_13 rfl)) ?_
  refine hcons (hsnd_g (hk_goto dL_person_14 rfl)) ?_
  refine hcons (hsnd_g (hk_iconst dL_person_19 rfl rfl)) ?_
  refine hcons (hsnd_g (hk_ireturn rfl dL_person_20)) ?_
  refine hcons (hsnd_g (hk_iconst dL_person_23 rfl rfl)) ?_
  refine hcons (hsnd_g (hk_ireturn rfl dL_person_24)) ?_
  refine hcons (hsnd_g (hk_iconst dL_person_27 rfl rfl)) ?_
  refine hcons (hsnd_g (hk_ireturn rfl dL_person_28)) ?_
  refine hcons (hsnd_g (hk_iconst dL_person_29 rfl rfl)) ?_
  refine hcons (hsnd_g (hk_ireturn rfl dL_person_30)) ?_
  exact fun _ h => nomatch h
def sp_L_person : Spc := fun av s N _ => match av with
  | [.inl (.inr (1, 0)), .inl (.inl p0), .inl (.inl p1), .inl (.inl p2), .inl (.inl p3), .inl (.inr (60, 0))] => Lv s 60 0 ∧ sp_X4_person [aR 1 0, aI p0, aI p1, aI p2, aI p3] s (hNi N) (hX hs_L_person N)
  | _ => False
set_option maxRecDepth 20000 in
set_option maxHeartbeats 1000000 in
theorem M_L_person : HMet yL_person cL_person 7 (some .int) (hTab 14 hs_L_person) 8 9 sp_L_person := by
  refine HMet.mk (own := RL) (by decide) rfl [0, 1, 2, 3, 4, 5, 6] rfl tok_L_person 60 ?_
  intro av s0 N h
  unfold sp_L_person at h
  split at h
  rotate_left
  · exact h.elim
  obtain ⟨h60, h⟩ := h
  refine ⟨rfl, by decide, Nat.le_of_ble_eq_true rfl, ⟨rfl, trivial⟩, rfl, rfl, _, _, h, ?_, ?_⟩
  · intro r s1 hN
    unfold hNi at hN
    split at hN
    · exact ⟨h60, ib01, Nat.le_of_ble_eq_true rfl, hN⟩
    · exact hN.elim
  · intro x s1 hX1
    by_cases q1 : x = 1
    · subst q1
      exact ⟨Nat.le_of_ble_eq_true rfl, hX1⟩
    by_cases q2 : x = 2
    · subst q2
      exact ⟨Nat.le_of_ble_eq_true rfl, hX1⟩
    by_cases q3 : x = 3
    · subst q3
      exact ⟨Nat.le_of_ble_eq_true rfl, hX1⟩
    simp [hX, hs_L_person, hix, Ne.symm q1, Ne.symm q2, Ne.symm q3] at hX1
theorem dL_rite_0 : decode cL_rite 0 = .ok (.aload_n 3, 1) := by decide +kernel
theorem dL_rite_1 : decode cL_rite 1 = .ok (.iconst 0, 1) := by decide +kernel
theorem dL_rite_2 : decode cL_rite 2 = .ok (.aload_n 0, 1) := by decide +kernel
theorem dL_rite_3 : decode cL_rite 3 = .ok (.iload_n 1, 1) := by decide +kernel
theorem dL_rite_4 : decode cL_rite 4 = .ok (.iload_n 2, 1) := by decide +kernel
theorem dL_rite_5 : decode cL_rite 5 = .ok (.invokevirtual 19, 3) := by decide +kernel
theorem dL_rite_8 : decode cL_rite 8 = .ok (.i2l, 1) := by decide +kernel
theorem dL_rite_9 : decode cL_rite 9 = .ok (.lastore, 1) := by decide +kernel
theorem dL_rite_10 : decode cL_rite 10 = .ok (.goto 11, 3) := by decide +kernel
theorem dL_rite_13 : decode cL_rite 13 = .ok (.astore 4, 2) := by decide +kernel
theorem dL_rite_15 : decode cL_rite 15 = .ok (.iconst 1, 1) := by decide +kernel
theorem dL_rite_16 : decode cL_rite 16 = .ok (.ireturn, 1) := by decide +kernel
theorem dL_rite_17 : decode cL_rite 17 = .ok (.astore 4, 2) := by decide +kernel
theorem dL_rite_19 : decode cL_rite 19 = .ok (.iconst 2, 1) := by decide +kernel
theorem dL_rite_20 : decode cL_rite 20 = .ok (.ireturn, 1) := by decide +kernel
theorem dL_rite_21 : decode cL_rite 21 = .ok (.iconst 0, 1) := by decide +kernel
theorem dL_rite_22 : decode cL_rite 22 = .ok (.ireturn, 1) := by decide +kernel
def hs_L_rite : List HE := [(1, 13, 13, 4, 15), (2, 15, 17, 4, 19)]
theorem hok_L_rite : ∀ h ∈ hs_L_rite, HOk RL cL_rite 5 h := ac (⟨⟨by decide, by decide⟩, by decide, w_151, w_xc1, by decide, Or.inr ⟨dL_rite_13, rfl⟩⟩) (ac (⟨⟨by decide, by decide⟩, by decide, w_152, w_xc2, by decide, Or.inr ⟨dL_rite_17, rfl⟩⟩) (an))
def tab_L_rite : List (Nat × Sem) := [(0, op_al 3 1), (1, op_ic 0 2), (2, op_al 0 3), (3, op_il 1 4), (4, op_il 2 5), (5, op_callHV 6 sp_X4_rite 3 2 8 hs_L_rite), (8, op_i2l 9), (9, op_last 10), (10, op_go 21), (15, op_ic 1 16), (16, op_iret), (19, op_ic 2 20), (20, op_iret), (21, op_ic 0 22), (22, op_iret)]
set_option maxRecDepth 20000 in
theorem tok_L_rite : ∀ q ∈ tab_L_rite, HGSnd (hTab 10 hs_L_rite) RL cL_rite 5 9 2 (some .int) q.1 q.2 := by
  unfold tab_L_rite
  refine hcons (hsnd_g (hk_aload_n dL_rite_0 rfl rfl)) ?_
  refine hcons (hsnd_g (hk_iconst dL_rite_1 rfl rfl)) ?_
  refine hcons (hsnd_g (hk_aload_n dL_rite_2 rfl rfl)) ?_
  refine hcons (hsnd_g (hk_iload_n dL_rite_3 rfl rfl)) ?_
  refine hcons (hsnd_g (hk_iload_n dL_rite_4 rfl rfl)) ?_
  refine hcons (hsnd_g (hk_invokevirtual M_X4_rite hok_L_rite (by decide) (C := RX4) (T := TX4) (nf := 8) rfl w_380 w_381 w_382 w_43 w_383 ⟨rfl, by decide, by decide, by decide +kernel⟩ (by decide) (by decide) dL_rite_5 rfl)) ?_
  refine hcons (hsnd_g (hk_i2l dL_rite_8 rfl)) ?_
  refine hcons (hsnd_g (hk_lastore dL_rite_9 rfl)) ?_
  refine hcons (hsnd_g (hk_goto dL_rite_10 rfl)) ?_
  refine hcons (hsnd_g (hk_iconst dL_rite_15 rfl rfl)) ?_
  refine hcons (hsnd_g (hk_ireturn rfl dL_rite_16)) ?_
  refine hcons (hsnd_g (hk_iconst dL_rite_19 rfl rfl)) ?_
  refine hcons (hsnd_g (hk_ireturn rfl dL_rite_20)) ?_
  refine hcons (hsnd_g (hk_iconst dL_rite_21 rfl rfl)) ?_
  refine hcons (hsnd_g (hk_ireturn rfl dL_rite_22)) ?_
  exact fun _ h => nomatch h
def sp_L_rite : Spc := fun av s N _ => match av with
  | [.inl (.inr (1, 0)), .inl (.inl p0), .inl (.inl p1), .inl (.inr (60, 0))] => Lv s 60 0 ∧ sp_X4_rite [aR 1 0, aI p0, aI p1] s (hNi N) (hX hs_L_rite N)
  | _ => False
set_option maxRecDepth 20000 in
set_option maxHeartbeats 1000000 in
theorem M_L_rite : HMet yL_rite cL_rite 5 (some .int) (hTab 10 hs_L_rite) 9 2 sp_L_rite := by
  refine HMet.mk (own := RL) (by decide) rfl [0, 1, 2, 3, 4] rfl tok_L_rite 60 ?_
  intro av s0 N h
  unfold sp_L_rite at h
  split at h
  rotate_left
  · exact h.elim
  obtain ⟨h60, h⟩ := h
  refine ⟨rfl, by decide, Nat.le_of_ble_eq_true rfl, _, _, h, ?_, ?_⟩
  · intro r s1 hN
    unfold hNi at hN
    split at hN
    · exact ⟨h60, ib01, Nat.le_of_ble_eq_true rfl, hN⟩
    · exact hN.elim
  · intro x s1 hX1
    by_cases q1 : x = 1
    · subst q1
      exact ⟨Nat.le_of_ble_eq_true rfl, hX1⟩
    by_cases q2 : x = 2
    · subst q2
      exact ⟨Nat.le_of_ble_eq_true rfl, hX1⟩
    simp [hX, hs_L_rite, hix, Ne.symm q1, Ne.symm q2] at hX1
theorem dL_home_0 : decode cL_home 0 = .ok (.aload_n 3, 1) := by decide +kernel
theorem dL_home_1 : decode cL_home 1 = .ok (.iconst 0, 1) := by decide +kernel
theorem dL_home_2 : decode cL_home 2 = .ok (.aload_n 0, 1) := by decide +kernel
theorem dL_home_3 : decode cL_home 3 = .ok (.iload_n 1, 1) := by decide +kernel
theorem dL_home_4 : decode cL_home 4 = .ok (.iload_n 2, 1) := by decide +kernel
theorem dL_home_5 : decode cL_home 5 = .ok (.invokevirtual 23, 3) := by decide +kernel
theorem dL_home_8 : decode cL_home 8 = .ok (.i2l, 1) := by decide +kernel
theorem dL_home_9 : decode cL_home 9 = .ok (.lastore, 1) := by decide +kernel
theorem dL_home_10 : decode cL_home 10 = .ok (.goto 11, 3) := by decide +kernel
theorem dL_home_13 : decode cL_home 13 = .ok (.astore 4, 2) := by decide +kernel
theorem dL_home_15 : decode cL_home 15 = .ok (.iconst 1, 1) := by decide +kernel
theorem dL_home_16 : decode cL_home 16 = .ok (.ireturn, 1) := by decide +kernel
theorem dL_home_17 : decode cL_home 17 = .ok (.astore 4, 2) := by decide +kernel
theorem dL_home_19 : decode cL_home 19 = .ok (.iconst 2, 1) := by decide +kernel
theorem dL_home_20 : decode cL_home 20 = .ok (.ireturn, 1) := by decide +kernel
theorem dL_home_21 : decode cL_home 21 = .ok (.iconst 0, 1) := by decide +kernel
theorem dL_home_22 : decode cL_home 22 = .ok (.ireturn, 1) := by decide +kernel
def hs_L_home : List HE := [(1, 13, 13, 4, 15), (2, 15, 17, 4, 19)]
theorem hok_L_home : ∀ h ∈ hs_L_home, HOk RL cL_home 5 h := ac (⟨⟨by decide, by decide⟩, by decide, w_151, w_xc1, by decide, Or.inr ⟨dL_home_13, rfl⟩⟩) (ac (⟨⟨by decide, by decide⟩, by decide, w_152, w_xc2, by decide, Or.inr ⟨dL_home_17, rfl⟩⟩) (an))
def tab_L_home : List (Nat × Sem) := [(0, op_al 3 1), (1, op_ic 0 2), (2, op_al 0 3), (3, op_il 1 4), (4, op_il 2 5), (5, op_callHV 6 sp_X4_home 3 2 8 hs_L_home), (8, op_i2l 9), (9, op_last 10), (10, op_go 21), (15, op_ic 1 16), (16, op_iret), (19, op_ic 2 20), (20, op_iret), (21, op_ic 0 22), (22, op_iret)]
set_option maxRecDepth 20000 in
theorem tok_L_home : ∀ q ∈ tab_L_home, HGSnd (hTab 10 hs_L_home) RL cL_home 5 9 2 (some .int) q.1 q.2 := by
  unfold tab_L_home
  refine hcons (hsnd_g (hk_aload_n dL_home_0 rfl rfl)) ?_
  refine hcons (hsnd_g (hk_iconst dL_home_1 rfl rfl)) ?_
  refine hcons (hsnd_g (hk_aload_n dL_home_2 rfl rfl)) ?_
  refine hcons (hsnd_g (hk_iload_n dL_home_3 rfl rfl)) ?_
  refine hcons (hsnd_g (hk_iload_n dL_home_4 rfl rfl)) ?_
  refine hcons (hsnd_g (hk_invokevirtual M_X4_home hok_L_home (by decide) (C := RX4) (T := TX4) (nf := 8) rfl w_405 w_406 w_407 w_43 w_408 ⟨rfl, by decide, by decide, by decide +kernel⟩ (by decide) (by decide) dL_home_5 rfl)) ?_
  refine hcons (hsnd_g (hk_i2l dL_home_8 rfl)) ?_
  refine hcons (hsnd_g (hk_lastore dL_home_9 rfl)) ?_
  refine hcons (hsnd_g (hk_goto dL_home_10 rfl)) ?_
  refine hcons (hsnd_g (hk_iconst dL_home_15 rfl rfl)) ?_
  refine hcons (hsnd_g (hk_ireturn rfl dL_home_16)) ?_
  refine hcons (hsnd_g (hk_iconst dL_home_19 rfl rfl)) ?_
  refine hcons (hsnd_g (hk_ireturn rfl dL_home_20)) ?_
  refine hcons (hsnd_g (hk_iconst dL_home_21 rfl rfl)) ?_
  refine hcons (hsnd_g (hk_ireturn rfl dL_home_22)) ?_
  exact fun _ h => nomatch h
def sp_L_home : Spc := fun av s N _ => match av with
  | [.inl (.inr (1, 0)), .inl (.inl p0), .inl (.inl p1), .inl (.inr (60, 0))] => Lv s 60 0 ∧ sp_X4_home [aR 1 0, aI p0, aI p1] s (hNi N) (hX hs_L_home N)
  | _ => False
set_option maxRecDepth 20000 in
set_option maxHeartbeats 1000000 in
theorem M_L_home : HMet yL_home cL_home 5 (some .int) (hTab 10 hs_L_home) 9 2 sp_L_home := by
  refine HMet.mk (own := RL) (by decide) rfl [0, 1, 2, 3, 4] rfl tok_L_home 60 ?_
  intro av s0 N h
  unfold sp_L_home at h
  split at h
  rotate_left
  · exact h.elim
  obtain ⟨h60, h⟩ := h
  refine ⟨rfl, by decide, Nat.le_of_ble_eq_true rfl, _, _, h, ?_, ?_⟩
  · intro r s1 hN
    unfold hNi at hN
    split at hN
    · exact ⟨h60, ib01, Nat.le_of_ble_eq_true rfl, hN⟩
    · exact hN.elim
  · intro x s1 hX1
    by_cases q1 : x = 1
    · subst q1
      exact ⟨Nat.le_of_ble_eq_true rfl, hX1⟩
    by_cases q2 : x = 2
    · subst q2
      exact ⟨Nat.le_of_ble_eq_true rfl, hX1⟩
    simp [hX, hs_L_home, hix, Ne.symm q1, Ne.symm q2] at hX1
theorem dL_order_0 : decode cL_order 0 = .ok (.aload_n 0, 1) := by decide +kernel
theorem dL_order_1 : decode cL_order 1 = .ok (.iload_n 1, 1) := by decide +kernel
theorem dL_order_2 : decode cL_order 2 = .ok (.invokevirtual 26, 3) := by decide +kernel
theorem dL_order_5 : decode cL_order 5 = .ok (.goto 9, 3) := by decide +kernel
theorem dL_order_8 : decode cL_order 8 = .ok (.astore_n 2, 1) := by decide +kernel
theorem dL_order_9 : decode cL_order 9 = .ok (.iconst 1, 1) := by decide +kernel
theorem dL_order_10 : decode cL_order 10 = .ok (.ireturn, 1) := by decide +kernel
theorem dL_order_11 : decode cL_order 11 = .ok (.astore_n 2, 1) := by decide +kernel
theorem dL_order_12 : decode cL_order 12 = .ok (.iconst 2, 1) := by decide +kernel
theorem dL_order_13 : decode cL_order 13 = .ok (.ireturn, 1) := by decide +kernel
theorem dL_order_14 : decode cL_order 14 = .ok (.iconst 0, 1) := by decide +kernel
theorem dL_order_15 : decode cL_order 15 = .ok (.ireturn, 1) := by decide +kernel
def hs_L_order : List HE := [(1, 13, 8, 2, 9), (3, 17, 11, 2, 12)]
theorem hok_L_order : ∀ h ∈ hs_L_order, HOk RL cL_order 3 h := ac (⟨⟨by decide, by decide⟩, by decide, w_151, w_xc1, by decide, Or.inl ⟨2, dL_order_8, rfl, rfl⟩⟩) (ac (⟨⟨by decide, by decide⟩, by decide, w_153, w_xc3, by decide, Or.inl ⟨2, dL_order_11, rfl, rfl⟩⟩) (an))
def tab_L_order : List (Nat × Sem) := [(0, op_al 0 1), (1, op_il 1 2), (2, op_callHV 6 sp_X4_order 2 2 5 hs_L_order), (5, op_go 14), (9, op_ic 1 10), (10, op_iret), (12, op_ic 2 13), (13, op_iret), (14, op_ic 0 15), (15, op_iret)]
set_option maxRecDepth 20000 in
theorem tok_L_order : ∀ q ∈ tab_L_order, HGSnd (hTab 5 hs_L_order) RL cL_order 3 9 2 (some .int) q.1 q.2 := by
  unfold tab_L_order
  refine hcons (hsnd_g (hk_aload_n dL_order_0 rfl rfl)) ?_
  refine hcons (hsnd_g (hk_iload_n dL_order_1 rfl rfl)) ?_
  refine hcons (hsnd_g (hk_invokevirtual M_X4_order hok_L_order (by decide) (C := RX4) (T := TX4) (nf := 8) rfl w_412 w_413 w_414 w_43 w_415 ⟨rfl, by decide, by decide, by decide +kernel⟩ (by decide) (by decide) dL_order_2 rfl)) ?_
  refine hcons (hsnd_g (hk_goto dL_order_5 rfl)) ?_
  refine hcons (hsnd_g (hk_iconst dL_order_9 rfl rfl)) ?_
  refine hcons (hsnd_g (hk_ireturn rfl dL_order_10)) ?_
  refine hcons (hsnd_g (hk_iconst dL_order_12 rfl rfl)) ?_
  refine hcons (hsnd_g (hk_ireturn rfl dL_order_13)) ?_
  refine hcons (hsnd_g (hk_iconst dL_order_14 rfl rfl)) ?_
  refine hcons (hsnd_g (hk_ireturn rfl dL_order_15)) ?_
  exact fun _ h => nomatch h
def sp_L_order : Spc := fun av s N _ => match av with
  | [.inl (.inr (1, 0)), .inl (.inl p0)] => Lv s 60 0 ∧ sp_X4_order [aR 1 0, aI p0] s (hNv N) (hX hs_L_order N)
  | _ => False
set_option maxRecDepth 20000 in
set_option maxHeartbeats 1000000 in
theorem M_L_order : HMet yL_order cL_order 3 (some .int) (hTab 5 hs_L_order) 9 2 sp_L_order := by
  refine HMet.mk (own := RL) (by decide) rfl [0, 1, 2] rfl tok_L_order 60 ?_
  intro av s0 N h
  unfold sp_L_order at h
  split at h
  rotate_left
  · exact h.elim
  obtain ⟨h60, h⟩ := h
  refine ⟨rfl, by decide, Nat.le_of_ble_eq_true rfl, _, _, h, ?_, ?_⟩
  · intro r s1 hN
    unfold hNv at hN
    split at hN
    · exact ⟨Nat.le_of_ble_eq_true rfl, hN⟩
    · exact hN.elim
  · intro x s1 hX1
    by_cases q1 : x = 1
    · subst q1
      exact ⟨Nat.le_of_ble_eq_true rfl, hX1⟩
    by_cases q3 : x = 3
    · subst q3
      exact ⟨Nat.le_of_ble_eq_true rfl, hX1⟩
    simp [hX, hs_L_order, hix, Ne.symm q1, Ne.symm q3] at hX1
theorem dL_ban_0 : decode cL_ban 0 = .ok (.aload_n 2, 1) := by decide +kernel
theorem dL_ban_1 : decode cL_ban 1 = .ok (.iconst 0, 1) := by decide +kernel
theorem dL_ban_2 : decode cL_ban 2 = .ok (.aload_n 0, 1) := by decide +kernel
theorem dL_ban_3 : decode cL_ban 3 = .ok (.iload_n 1, 1) := by decide +kernel
theorem dL_ban_4 : decode cL_ban 4 = .ok (.invokevirtual 30, 3) := by decide +kernel
theorem dL_ban_7 : decode cL_ban 7 = .ok (.ifCond .eq 7, 3) := by decide +kernel
theorem dL_ban_10 : decode cL_ban 10 = .ok (.lconst 1, 1) := by decide +kernel
theorem dL_ban_11 : decode cL_ban 11 = .ok (.goto 4, 3) := by decide +kernel
theorem dL_ban_14 : decode cL_ban 14 = .ok (.lconst 0, 1) := by decide +kernel
theorem dL_ban_15 : decode cL_ban 15 = .ok (.lastore, 1) := by decide +kernel
theorem dL_ban_16 : decode cL_ban 16 = .ok (.goto 6, 3) := by decide +kernel
theorem dL_ban_19 : decode cL_ban 19 = .ok (.astore_n 3, 1) := by decide +kernel
theorem dL_ban_20 : decode cL_ban 20 = .ok (.iconst 1, 1) := by decide +kernel
theorem dL_ban_21 : decode cL_ban 21 = .ok (.ireturn, 1) := by decide +kernel
theorem dL_ban_22 : decode cL_ban 22 = .ok (.iconst 0, 1) := by decide +kernel
theorem dL_ban_23 : decode cL_ban 23 = .ok (.ireturn, 1) := by decide +kernel
def hs_L_ban : List HE := [(1, 13, 19, 3, 20)]
theorem hok_L_ban : ∀ h ∈ hs_L_ban, HOk RL cL_ban 4 h := ac (⟨⟨by decide, by decide⟩, by decide, w_151, w_xc1, by decide, Or.inl ⟨3, dL_ban_19, rfl, rfl⟩⟩) (an)
def tab_L_ban : List (Nat × Sem) := [(0, op_al 2 1), (1, op_ic 0 2), (2, op_al 0 3), (3, op_il 1 4), (4, op_callHV 6 sp_X4_ban 2 1 7 hs_L_ban), (7, op_if (fun x => x = 0) 14 10), (10, op_lc 1 11), (11, op_go 15), (14, op_lc 0 15), (15, op_last 16), (16, op_go 22), (20, op_ic 1 21), (21, op_iret), (22, op_ic 0 23), (23, op_iret)]
set_option maxRecDepth 20000 in
theorem tok_L_ban : ∀ q ∈ tab_L_ban, HGSnd (hTab 16 hs_L_ban) RL cL_ban 4 9 1 (some .int) q.1 q.2 := by
  unfold tab_L_ban
  refine hcons (hsnd_g (hk_aload_n dL_ban_0 rfl rfl)) ?_
  refine hcons (hsnd_g (hk_iconst dL_ban_1 rfl rfl)) ?_
  refine hcons (hsnd_g (hk_aload_n dL_ban_2 rfl rfl)) ?_
  refine hcons (hsnd_g (hk_iload_n dL_ban_3 rfl rfl)) ?_
  refine hcons (hsnd_g (hk_invokevirtual M_X4_ban hok_L_ban (by decide) (C := RX4) (T := TX4) (nf := 8) rfl w_419 w_420 w_421 w_43 w_422 ⟨rfl, by decide, by decide, by decide +kernel⟩ (by decide) (by decide) dL_ban_4 rfl)) ?_
  refine hcons (hsnd_g (hk_if_eq dL_ban_7 rfl rfl)) ?_
  refine hcons (hsnd_g (hk_lconst dL_ban_10 rfl rfl)) ?_
  refine hcons (hsnd_g (hk_goto dL_ban_11 rfl)) ?_
  refine hcons (hsnd_g (hk_lconst dL_ban_14 rfl rfl)) ?_
  refine hcons (hsnd_g (hk_lastore dL_ban_15 rfl)) ?_
  refine hcons (hsnd_g (hk_goto dL_ban_16 rfl)) ?_
  refine hcons (hsnd_g (hk_iconst dL_ban_20 rfl rfl)) ?_
  refine hcons (hsnd_g (hk_ireturn rfl dL_ban_21)) ?_
  refine hcons (hsnd_g (hk_iconst dL_ban_22 rfl rfl)) ?_
  refine hcons (hsnd_g (hk_ireturn rfl dL_ban_23)) ?_
  exact fun _ h => nomatch h
def sp_L_ban : Spc := fun av s N _ => match av with
  | [.inl (.inr (1, 0)), .inl (.inl p0), .inl (.inr (60, 0))] => Lv s 60 0 ∧ sp_X4_ban [aR 1 0, aI p0] s (hNz N) (hX hs_L_ban N)
  | _ => False
set_option maxRecDepth 20000 in
set_option maxHeartbeats 1000000 in
theorem M_L_ban : HMet yL_ban cL_ban 4 (some .int) (hTab 16 hs_L_ban) 9 1 sp_L_ban := by
  refine HMet.mk (own := RL) (by decide) rfl [0, 1, 2, 3] rfl tok_L_ban 60 ?_
  intro av s0 N h
  unfold sp_L_ban at h
  split at h
  rotate_left
  · exact h.elim
  obtain ⟨h60, h⟩ := h
  refine ⟨rfl, by decide, Nat.le_of_ble_eq_true rfl, _, _, h, ?_, ?_⟩
  · intro r s1 hN
    unfold hNz at hN
    split at hN
    · exact ⟨fun q => ⟨h60, ib01, Nat.le_of_ble_eq_true rfl, hN.2 q⟩, fun q => ⟨h60, ib01, Nat.le_of_ble_eq_true rfl, hN.1 q⟩⟩
    · exact hN.elim
  · intro x s1 hX1
    by_cases q1 : x = 1
    · subst q1
      exact ⟨Nat.le_of_ble_eq_true rfl, hX1⟩
    simp [hX, hs_L_ban, hix, Ne.symm q1] at hX1
theorem dL_die_0 : decode cL_die 0 = .ok (.aload_n 2, 1) := by decide +kernel
theorem dL_die_1 : decode cL_die 1 = .ok (.iconst 0, 1) := by decide +kernel
theorem dL_die_2 : decode cL_die 2 = .ok (.aload_n 0, 1) := by decide +kernel
theorem dL_die_3 : decode cL_die 3 = .ok (.iload_n 1, 1) := by decide +kernel
theorem dL_die_4 : decode cL_die 4 = .ok (.invokevirtual 34, 3) := by decide +kernel
theorem dL_die_7 : decode cL_die 7 = .ok (.i2l, 1) := by decide +kernel
theorem dL_die_8 : decode cL_die 8 = .ok (.lastore, 1) := by decide +kernel
theorem dL_die_9 : decode cL_die 9 = .ok (.goto 9, 3) := by decide +kernel
theorem dL_die_12 : decode cL_die 12 = .ok (.astore_n 3, 1) := by decide +kernel
theorem dL_die_13 : decode cL_die 13 = .ok (.iconst 1, 1) := by decide +kernel
theorem dL_die_14 : decode cL_die 14 = .ok (.ireturn, 1) := by decide +kernel
theorem dL_die_15 : decode cL_die 15 = .ok (.astore_n 3, 1) := by decide +kernel
theorem dL_die_16 : decode cL_die 16 = .ok (.iconst 2, 1) := by decide +kernel
theorem dL_die_17 : decode cL_die 17 = .ok (.ireturn, 1) := by decide +kernel
theorem dL_die_18 : decode cL_die 18 = .ok (.iconst 0, 1) := by decide +kernel
theorem dL_die_19 : decode cL_die 19 = .ok (.ireturn, 1) := by decide +kernel
def hs_L_die : List HE := [(1, 13, 12, 3, 13), (3, 17, 15, 3, 16)]
theorem hok_L_die : ∀ h ∈ hs_L_die, HOk RL cL_die 4 h := ac (⟨⟨by decide, by decide⟩, by decide, w_151, w_xc1, by decide, Or.inl ⟨3, dL_die_12, rfl, rfl⟩⟩) (ac (⟨⟨by decide, by decide⟩, by decide, w_153, w_xc3, by decide, Or.inl ⟨3, dL_die_15, rfl, rfl⟩⟩) (an))
def tab_L_die : List (Nat × Sem) := [(0, op_al 2 1), (1, op_ic 0 2), (2, op_al 0 3), (3, op_il 1 4), (4, op_callHV 6 sp_X4_die 2 2 7 hs_L_die), (7, op_i2l 8), (8, op_last 9), (9, op_go 18), (13, op_ic 1 14), (14, op_iret), (16, op_ic 2 17), (17, op_iret), (18, op_ic 0 19), (19, op_iret)]
set_option maxRecDepth 20000 in
theorem tok_L_die : ∀ q ∈ tab_L_die, HGSnd (hTab 9 hs_L_die) RL cL_die 4 9 2 (some .int) q.1 q.2 := by
  unfold tab_L_die
  refine hcons (hsnd_g (hk_aload_n dL_die_0 rfl rfl)) ?_
  refine hcons (hsnd_g (hk_iconst dL_die_1 rfl rfl)) ?_
  refine hcons (hsnd_g (hk_aload_n dL_die_2 rfl rfl)) ?_
  refine hcons (hsnd_g (hk_iload_n dL_die_3 rfl rfl)) ?_
  refine hcons (hsnd_g (hk_invokevirtual M_X4_die hok_L_die (by decide) (C := RX4) (T := TX4) (nf := 8) rfl w_426 w_427 w_428 w_43 w_429 ⟨rfl, by decide, by decide, by decide +kernel⟩ (by decide) (by decide) dL_die_4 rfl)) ?_
  refine hcons (hsnd_g (hk_i2l dL_die_7 rfl)) ?_
  refine hcons (hsnd_g (hk_lastore dL_die_8 rfl)) ?_
  refine hcons (hsnd_g (hk_goto dL_die_9 rfl)) ?_
  refine hcons (hsnd_g (hk_iconst dL_die_13 rfl rfl)) ?_
  refine hcons (hsnd_g (hk_ireturn rfl dL_die_14)) ?_
  refine hcons (hsnd_g (hk_iconst dL_die_16 rfl rfl)) ?_
  refine hcons (hsnd_g (hk_ireturn rfl dL_die_17)) ?_
  refine hcons (hsnd_g (hk_iconst dL_die_18 rfl rfl)) ?_
  refine hcons (hsnd_g (hk_ireturn rfl dL_die_19)) ?_
  exact fun _ h => nomatch h
def sp_L_die : Spc := fun av s N _ => match av with
  | [.inl (.inr (1, 0)), .inl (.inl p0), .inl (.inr (60, 0))] => Lv s 60 0 ∧ sp_X4_die [aR 1 0, aI p0] s (hNi N) (hX hs_L_die N)
  | _ => False
set_option maxRecDepth 20000 in
set_option maxHeartbeats 1000000 in
theorem M_L_die : HMet yL_die cL_die 4 (some .int) (hTab 9 hs_L_die) 9 2 sp_L_die := by
  refine HMet.mk (own := RL) (by decide) rfl [0, 1, 2, 3] rfl tok_L_die 60 ?_
  intro av s0 N h
  unfold sp_L_die at h
  split at h
  rotate_left
  · exact h.elim
  obtain ⟨h60, h⟩ := h
  refine ⟨rfl, by decide, Nat.le_of_ble_eq_true rfl, _, _, h, ?_, ?_⟩
  · intro r s1 hN
    unfold hNi at hN
    split at hN
    · exact ⟨h60, ib01, Nat.le_of_ble_eq_true rfl, hN⟩
    · exact hN.elim
  · intro x s1 hX1
    by_cases q1 : x = 1
    · subst q1
      exact ⟨Nat.le_of_ble_eq_true rfl, hX1⟩
    by_cases q3 : x = 3
    · subst q3
      exact ⟨Nat.le_of_ble_eq_true rfl, hX1⟩
    simp [hX, hs_L_die, hix, Ne.symm q1, Ne.symm q3] at hX1
theorem dL_dispense_0 : decode cL_dispense 0 = .ok (.aload_n 0, 1) := by decide +kernel
theorem dL_dispense_1 : decode cL_dispense 1 = .ok (.iload_n 1, 1) := by decide +kernel
theorem dL_dispense_2 : decode cL_dispense 2 = .ok (.iload_n 2, 1) := by decide +kernel
theorem dL_dispense_3 : decode cL_dispense 3 = .ok (.iload_n 3, 1) := by decide +kernel
theorem dL_dispense_4 : decode cL_dispense 4 = .ok (.invokevirtual 38, 3) := by decide +kernel
theorem dL_dispense_7 : decode cL_dispense 7 = .ok (.goto 15, 3) := by decide +kernel
theorem dL_dispense_10 : decode cL_dispense 10 = .ok (.astore 4, 2) := by decide +kernel
theorem dL_dispense_12 : decode cL_dispense 12 = .ok (.iconst 1, 1) := by decide +kernel
theorem dL_dispense_13 : decode cL_dispense 13 = .ok (.ireturn, 1) := by decide +kernel
theorem dL_dispense_14 : decode cL_dispense 14 = .ok (.astore 4, 2) := by decide +kernel
theorem dL_dispense_16 : decode cL_dispense 16 = .ok (.iconst 2, 1) := by decide +kernel
theorem dL_dispense_17 : decode cL_dispense 17 = .ok (.ireturn, 1) := by decide +kernel
theorem dL_dispense_18 : decode cL_dispense 18 = .ok (.astore 4, 2) := by decide +kernel
theorem dL_dispense_20 : decode cL_dispense 20 = .ok (.iconst 3, 1) := by decide +kernel
theorem dL_dispense_21 : decode cL_dispense 21 = .ok (.ireturn, 1) := by decide +kernel
theorem dL_dispense_22 : decode cL_dispense 22 = .ok (.iconst 0, 1) := by decide +kernel
theorem dL_dispense_23 : decode cL_dispense 23 = .ok (.ireturn, 1) := by decide +kernel
def hs_L_dispense : List HE := [(1, 13, 10, 4, 12), (2, 15, 14, 4, 16), (3, 17, 18, 4, 20)]
theorem hok_L_dispense : ∀ h ∈ hs_L_dispense, HOk RL cL_dispense 5 h := ac (⟨⟨by decide, by decide⟩, by decide, w_151, w_xc1, by decide, Or.inr ⟨dL_dispense_10, rfl⟩⟩) (ac (⟨⟨by decide, by decide⟩, by decide, w_152, w_xc2, by decide, Or.inr ⟨dL_dispense_14, rfl⟩⟩) (ac (⟨⟨by decide, by decide⟩, by decide, w_153, w_xc3, by decide, Or.inr ⟨dL_dispense_18, rfl⟩⟩) (an)))
def tab_L_dispense : List (Nat × Sem) := [(0, op_al 0 1), (1, op_il 1 2), (2, op_il 2 3), (3, op_il 3 4), (4, op_callHV 6 sp_X4_dispense 4 10 7 hs_L_dispense), (7, op_go 22), (12, op_ic 1 13), (13, op_iret), (16, op_ic 2 17), (17, op_iret), (20, op_ic 3 21), (21, op_iret), (22, op_ic 0 23), (23, op_iret)]
set_option maxRecDepth 20000 in
theorem tok_L_dispense : ∀ q ∈ tab_L_dispense, HGSnd (hTab 7 hs_L_dispense) RL cL_dispense 5 11 10 (some .int) q.1 q.2 := by
  unfold tab_L_dispense
  refine hcons (hsnd_g (hk_aload_n dL_dispense_0 rfl rfl)) ?_
  refine hcons (hsnd_g (hk_iload_n dL_dispense_1 rfl rfl)) ?_
  refine hcons (hsnd_g (hk_iload_n dL_dispense_2 rfl rfl)) ?_
  refine hcons (hsnd_g (hk_iload_n dL_dispense_3 rfl rfl)) ?_
  refine hcons (hsnd_g (hk_invokevirtual M_X4_dispense hok_L_dispense (by decide) (C := RX4) (T := TX4) (nf := 8) rfl w_446 w_447 w_448 w_43 w_449 ⟨rfl, by decide, by decide, by decide +kernel⟩ (by decide) (by decide) dL_dispense_4 rfl)) ?_
  refine hcons (hsnd_g (hk_goto dL_dispense_7 rfl)) ?_
  refine hcons (hsnd_g (hk_iconst dL_dispense_12 rfl rfl)) ?_
  refine hcons (hsnd_g (hk_ireturn rfl dL_dispense_13)) ?_
  refine hcons (hsnd_g (hk_iconst dL_dispense_16 rfl rfl)) ?_
  refine hcons (hsnd_g (hk_ireturn rfl dL_dispense_17)) ?_
  refine hcons (hsnd_g (hk_iconst dL_dispense_20 rfl rfl)) ?_
  refine hcons (hsnd_g (hk_ireturn rfl dL_dispense_21)) ?_
  refine hcons (hsnd_g (hk_iconst dL_dispense_22 rfl rfl)) ?_
  refine hcons (hsnd_g (hk_ireturn rfl dL_dispense_23)) ?_
  exact fun _ h => nomatch h
def sp_L_dispense : Spc := fun av s N _ => match av with
  | [.inl (.inr (1, 0)), .inl (.inl p0), .inl (.inl p1), .inl (.inl p2)] => Lv s 60 0 ∧ sp_X4_dispense [aR 1 0, aI p0, aI p1, aI p2] s (hNv N) (hX hs_L_dispense N)
  | _ => False
set_option maxRecDepth 20000 in
set_option maxHeartbeats 1000000 in
theorem M_L_dispense : HMet yL_dispense cL_dispense 5 (some .int) (hTab 7 hs_L_dispense) 11 10 sp_L_dispense := by
  refine HMet.mk (own := RL) (by decide) rfl [0, 1, 2, 3, 4] rfl tok_L_dispense 60 ?_
  intro av s0 N h
  unfold sp_L_dispense at h
  split at h
  rotate_left
  · exact h.elim
  obtain ⟨h60, h⟩ := h
  refine ⟨rfl, by decide, Nat.le_of_ble_eq_true rfl, _, _, h, ?_, ?_⟩
  · intro r s1 hN
    unfold hNv at hN
    split at hN
    · exact ⟨Nat.le_of_ble_eq_true rfl, hN⟩
    · exact hN.elim
  · intro x s1 hX1
    by_cases q1 : x = 1
    · subst q1
      exact ⟨Nat.le_of_ble_eq_true rfl, hX1⟩
    by_cases q2 : x = 2
    · subst q2
      exact ⟨Nat.le_of_ble_eq_true rfl, hX1⟩
    by_cases q3 : x = 3
    · subst q3
      exact ⟨Nat.le_of_ble_eq_true rfl, hX1⟩
    simp [hX, hs_L_dispense, hix, Ne.symm q1, Ne.symm q2, Ne.symm q3] at hX1
theorem dL_faculty_0 : decode cL_faculty 0 = .ok (.aload_n 0, 1) := by decide +kernel
theorem dL_faculty_1 : decode cL_faculty 1 = .ok (.iload_n 1, 1) := by decide +kernel
theorem dL_faculty_2 : decode cL_faculty 2 = .ok (.iload_n 2, 1) := by decide +kernel
theorem dL_faculty_3 : decode cL_faculty 3 = .ok (.iload_n 3, 1) := by decide +kernel
theorem dL_faculty_4 : decode cL_faculty 4 = .ok (.invokevirtual 42, 3) := by decide +kernel
theorem dL_faculty_7 : decode cL_faculty 7 = .ok (.goto 7, 3) := by decide +kernel
theorem dL_faculty_10 : decode cL_faculty 10 = .ok (.astore 4, 2) := by decide +kernel
theorem dL_faculty_12 : decode cL_faculty 12 = .ok (.iconst 1, 1) := by decide +kernel
theorem dL_faculty_13 : decode cL_faculty 13 = .ok (.ireturn, 1) := by decide +kernel
theorem dL_faculty_14 : decode cL_faculty 14 = .ok (.iconst 0, 1) := by decide +kernel
theorem dL_faculty_15 : decode cL_faculty 15 = .ok (.ireturn, 1) := by decide +kernel
def hs_L_faculty : List HE := [(2, 15, 10, 4, 12)]
theorem hok_L_faculty : ∀ h ∈ hs_L_faculty, HOk RL cL_faculty 5 h := ac (⟨⟨by decide, by decide⟩, by decide, w_152, w_xc2, by decide, Or.inr ⟨dL_faculty_10, rfl⟩⟩) (an)
def tab_L_faculty : List (Nat × Sem) := [(0, op_al 0 1), (1, op_il 1 2), (2, op_il 2 3), (3, op_il 3 4), (4, op_callHV 6 sp_X4_faculty 4 1 7 hs_L_faculty), (7, op_go 14), (12, op_ic 1 13), (13, op_iret), (14, op_ic 0 15), (15, op_iret)]
set_option maxRecDepth 20000 in
theorem tok_L_faculty : ∀ q ∈ tab_L_faculty, HGSnd (hTab 7 hs_L_faculty) RL cL_faculty 5 8 1 (some .int) q.1 q.2 := by
  unfold tab_L_faculty
  refine hcons (hsnd_g (hk_aload_n dL_faculty_0 rfl rfl)) ?_
  refine hcons (hsnd_g (hk_iload_n dL_faculty_1 rfl rfl)) ?_
  refine hcons (hsnd_g (hk_iload_n dL_faculty_2 rfl rfl)) ?_
  refine hcons (hsnd_g (hk_iload_n dL_faculty_3 rfl rfl)) ?_
  refine hcons (hsnd_g (hk_invokevirtual M_X4_faculty hok_L_faculty (by decide) (C := RX4) (T := TX4) (nf := 8) rfl w_475 w_476 w_477 w_43 w_478 ⟨rfl, by decide, by decide, by decide +kernel⟩ (by decide) (by decide) dL_faculty_4 rfl)) ?_
  refine hcons (hsnd_g (hk_goto dL_faculty_7 rfl)) ?_
  refine hcons (hsnd_g (hk_iconst dL_faculty_12 rfl rfl)) ?_
  refine hcons (hsnd_g (hk_ireturn rfl dL_faculty_13)) ?_
  refine hcons (hsnd_g (hk_iconst dL_faculty_14 rfl rfl)) ?_
  refine hcons (hsnd_g (hk_ireturn rfl dL_faculty_15)) ?_
  exact fun _ h => nomatch h
def sp_L_faculty : Spc := fun av s N _ => match av with
  | [.inl (.inr (1, 0)), .inl (.inl p0), .inl (.inl p1), .inl (.inl p2)] => Lv s 60 0 ∧ sp_X4_faculty [aR 1 0, aI p0, aI p1, aI p2] s (hNv N) (hX hs_L_faculty N)
  | _ => False
set_option maxRecDepth 20000 in
set_option maxHeartbeats 1000000 in
theorem M_L_faculty : HMet yL_faculty cL_faculty 5 (some .int) (hTab 7 hs_L_faculty) 8 1 sp_L_faculty := by
  refine HMet.mk (own := RL) (by decide) rfl [0, 1, 2, 3, 4] rfl tok_L_faculty 60 ?_
  intro av s0 N h
  unfold sp_L_faculty at h
  split at h
  rotate_left
  · exact h.elim
  obtain ⟨h60, h⟩ := h
  refine ⟨rfl, by decide, Nat.le_of_ble_eq_true rfl, _, _, h, ?_, ?_⟩
  · intro r s1 hN
    unfold hNv at hN
    split at hN
    · exact ⟨Nat.le_of_ble_eq_true rfl, hN⟩
    · exact hN.elim
  · intro x s1 hX1
    by_cases q2 : x = 2
    · subst q2
      exact ⟨Nat.le_of_ble_eq_true rfl, hX1⟩
    simp [hX, hs_L_faculty, hix, Ne.symm q2] at hX1
theorem dL_error_0 : decode cL_error 0 = .ok (.aload_n 2, 1) := by decide +kernel
theorem dL_error_1 : decode cL_error 1 = .ok (.iconst 0, 1) := by decide +kernel
theorem dL_error_2 : decode cL_error 2 = .ok (.aload_n 0, 1) := by decide +kernel
theorem dL_error_3 : decode cL_error 3 = .ok (.iload_n 1, 1) := by decide +kernel
theorem dL_error_4 : decode cL_error 4 = .ok (.invokevirtual 45, 3) := by decide +kernel
theorem dL_error_7 : decode cL_error 7 = .ok (.ifCond .eq 7, 3) := by decide +kernel
theorem dL_error_10 : decode cL_error 10 = .ok (.lconst 1, 1) := by decide +kernel
theorem dL_error_11 : decode cL_error 11 = .ok (.goto 4, 3) := by decide +kernel
theorem dL_error_14 : decode cL_error 14 = .ok (.lconst 0, 1) := by decide +kernel
theorem dL_error_15 : decode cL_error 15 = .ok (.lastore, 1) := by decide +kernel
theorem dL_error_16 : decode cL_error 16 = .ok (.goto 6, 3) := by decide +kernel
theorem dL_error_19 : decode cL_error 19 = .ok (.astore_n 3, 1) := by decide +kernel
theorem dL_error_20 : decode cL_error 20 = .ok (.iconst 1, 1) := by decide +kernel
theorem dL_error_21 : decode cL_error 21 = .ok (.ireturn, 1) := by decide +kernel
theorem dL_error_22 : decode cL_error 22 = .ok (.iconst 0, 1) := by decide +kernel
theorem dL_error_23 : decode cL_error 23 = .ok (.ireturn, 1) := by decide +kernel
def hs_L_error : List HE := [(2, 15, 19, 3, 20)]
theorem hok_L_error : ∀ h ∈ hs_L_error, HOk RL cL_error 4 h := ac (⟨⟨by decide, by decide⟩, by decide, w_152, w_xc2, by decide, Or.inl ⟨3, dL_error_19, rfl, rfl⟩⟩) (an)
def tab_L_error : List (Nat × Sem) := [(0, op_al 2 1), (1, op_ic 0 2), (2, op_al 0 3), (3, op_il 1 4), (4, op_callHV 6 sp_X4_error 2 1 7 hs_L_error), (7, op_if (fun x => x = 0) 14 10), (10, op_lc 1 11), (11, op_go 15), (14, op_lc 0 15), (15, op_last 16), (16, op_go 22), (20, op_ic 1 21), (21, op_iret), (22, op_ic 0 23), (23, op_iret)]
set_option maxRecDepth 20000 in
theorem tok_L_error : ∀ q ∈ tab_L_error, HGSnd (hTab 16 hs_L_error) RL cL_error 4 8 1 (some .int) q.1 q.2 := by
  unfold tab_L_error
  refine hcons (hsnd_g (hk_aload_n dL_error_0 rfl rfl)) ?_
  refine hcons (hsnd_g (hk_iconst dL_error_1 rfl rfl)) ?_
  refine hcons (hsnd_g (hk_aload_n dL_error_2 rfl rfl)) ?_
  refine hcons (hsnd_g (hk_iload_n dL_error_3 rfl rfl)) ?_
  refine hcons (hsnd_g (hk_invokevirtual M_X4_error hok_L_error (by decide) (C := RX4) (T := TX4) (nf := 8) rfl w_485 w_486 w_487 w_43 w_488 ⟨rfl, by decide, by decide, by decide +kernel⟩ (by decide) (by decide) dL_error_4 rfl)) ?_
  refine hcons (hsnd_g (hk_if_eq dL_error_7 rfl rfl)) ?_
  refine hcons (hsnd_g (hk_lconst dL_error_10 rfl rfl)) ?_
  refine hcons (hsnd_g (hk_goto dL_error_11 rfl)) ?_
  refine hcons (hsnd_g (hk_lconst dL_error_14 rfl rfl)) ?_
  refine hcons (hsnd_g (hk_lastore dL_error_15 rfl)) ?_
  refine hcons (hsnd_g (hk_goto dL_error_16 rfl)) ?_
  refine hcons (hsnd_g (hk_iconst dL_error_20 rfl rfl)) ?_
  refine hcons (hsnd_g (hk_ireturn rfl dL_error_21)) ?_
  refine hcons (hsnd_g (hk_iconst dL_error_22 rfl rfl)) ?_
  refine hcons (hsnd_g (hk_ireturn rfl dL_error_23)) ?_
  exact fun _ h => nomatch h
def sp_L_error : Spc := fun av s N _ => match av with
  | [.inl (.inr (1, 0)), .inl (.inl p0), .inl (.inr (60, 0))] => Lv s 60 0 ∧ sp_X4_error [aR 1 0, aI p0] s (hNz N) (hX hs_L_error N)
  | _ => False
set_option maxRecDepth 20000 in
set_option maxHeartbeats 1000000 in
theorem M_L_error : HMet yL_error cL_error 4 (some .int) (hTab 16 hs_L_error) 8 1 sp_L_error := by
  refine HMet.mk (own := RL) (by decide) rfl [0, 1, 2, 3] rfl tok_L_error 60 ?_
  intro av s0 N h
  unfold sp_L_error at h
  split at h
  rotate_left
  · exact h.elim
  obtain ⟨h60, h⟩ := h
  refine ⟨rfl, by decide, Nat.le_of_ble_eq_true rfl, _, _, h, ?_, ?_⟩
  · intro r s1 hN
    unfold hNz at hN
    split at hN
    · exact ⟨fun q => ⟨h60, ib01, Nat.le_of_ble_eq_true rfl, hN.2 q⟩, fun q => ⟨h60, ib01, Nat.le_of_ble_eq_true rfl, hN.1 q⟩⟩
    · exact hN.elim
  · intro x s1 hX1
    by_cases q2 : x = 2
    · subst q2
      exact ⟨Nat.le_of_ble_eq_true rfl, hX1⟩
    simp [hX, hs_L_error, hix, Ne.symm q2] at hX1
theorem dL_vow_0 : decode cL_vow 0 = .ok (.aload 5, 2) := by decide +kernel
theorem dL_vow_2 : decode cL_vow 2 = .ok (.iconst 0, 1) := by decide +kernel
theorem dL_vow_3 : decode cL_vow 3 = .ok (.aload_n 0, 1) := by decide +kernel
theorem dL_vow_4 : decode cL_vow 4 = .ok (.iload_n 1, 1) := by decide +kernel
theorem dL_vow_5 : decode cL_vow 5 = .ok (.iload_n 2, 1) := by decide +kernel
theorem dL_vow_6 : decode cL_vow 6 = .ok (.iload_n 3, 1) := by decide +kernel
theorem dL_vow_7 : decode cL_vow 7 = .ok (.iload 4, 2) := by decide +kernel
theorem dL_vow_9 : decode cL_vow 9 = .ok (.invokevirtual 48, 3) := by decide +kernel
theorem dL_vow_12 : decode cL_vow 12 = .ok (.i2l, 1) := by decide +kernel
theorem dL_vow_13 : decode cL_vow 13 = .ok (.lastore, 1) := by decide +kernel
theorem dL_vow_14 : decode cL_vow 14 = .ok (.goto 15, 3) := by decide +kernel
theorem dL_vow_17 : decode cL_vow 17 = .ok (.astore 6, 2) := by decide +kernel
theorem dL_vow_19 : decode cL_vow 19 = .ok (.iconst 1, 1) := by decide +kernel
theorem dL_vow_20 : decode cL_vow 20 = .ok (.ireturn, 1) := by decide +kernel
theorem dL_vow_21 : decode cL_vow 21 = .ok (.astore 6, 2) := by decide +kernel
theorem dL_vow_23 : decode cL_vow 23 = .ok (.iconst 2, 1) := by decide +kernel
theorem dL_vow_24 : decode cL_vow 24 = .ok (.ireturn, 1) := by decide +kernel
theorem dL_vow_25 : decode cL_vow 25 = .ok (.astore 6, 2) := by decide +kernel
theorem dL_vow_27 : decode cL_vow 27 = .ok (.iconst 3, 1) := by decide +kernel
theorem dL_vow_28 : decode cL_vow 28 = .ok (.ireturn, 1) := by decide +kernel
theorem dL_vow_29 : decode cL_vow 29 = .ok (.iconst 0, 1) := by decide +kernel
theorem dL_vow_30 : decode cL_vow 30 = .ok (.ireturn, 1) := by decide +kernel
def hs_L_vow : List HE := [(1, 13, 17, 6, 19), (2, 15, 21, 6, 23), (3, 17, 25, 6, 27)]
theorem hok_L_vow : ∀ h ∈ hs_L_vow, HOk RL cL_vow 7 h := ac (⟨⟨by decide, by decide⟩, by decide, w_151, w_xc1, by decide, Or.inr ⟨dL_vow_17, rfl⟩⟩) (ac (⟨⟨by decide, by decide⟩, by decide, w_152, w_xc2, by decide, Or.inr ⟨dL_vow_21, rfl⟩⟩) (ac (⟨⟨by decide, by decide⟩, by decide, w_153, w_xc3, by decide, Or.inr ⟨dL_vow_25, rfl⟩⟩) (an)))
def tab_L_vow : List (Nat × Sem) := [(0, op_al 5 2), (2, op_ic 0 3), (3, op_al 0 4), (4, op_il 1 5), (5, op_il 2 6), (6, op_il 3 7), (7, op_il 4 9), (9, op_callHGV 6 sp_X4_vow 5 13 12 hs_L_vow), (12, op_i2l 13), (13, op_last 14), (14, op_go 29), (19, op_ic 1 20), (20, op_iret), (23, op_ic 2 24), (24, op_iret), (27, op_ic 3 28), (28, op_iret), (29, op_ic 0 30), (30, op_iret)]
set_option maxRecDepth 20000 in
theorem tok_L_vow : ∀ q ∈ tab_L_vow, HGSnd (hTab 14 hs_L_vow) RL cL_vow 7 11 13 (some .int) q.1 q.2 := by
  unfold tab_L_vow
  refine hcons (hsnd_g (hk_aload dL_vow_0 rfl)) ?_
  refine hcons (hsnd_g (hk_iconst dL_vow_2 rfl rfl)) ?_
  refine hcons (hsnd_g (hk_aload_n dL_vow_3 rfl rfl)) ?_
  refine hcons (hsnd_g (hk_iload_n dL_vow_4 rfl rfl)) ?_
  refine hcons (hsnd_g (hk_iload_n dL_vow_5 rfl rfl)) ?_
  refine hcons (hsnd_g (hk_iload_n dL_vow_6 rfl rfl)) ?_
  refine hcons (hsnd_g (hk_iload dL_vow_7 rfl)) ?_
  refine hcons (hk_invokevirtualG M_X4_vow hok_L_vow (by decide) (C := RX4) (T := TX4) (nf := 8) rfl w_492 w_493 w_494 w_43 w_495 ⟨rfl, by decide, by decide, by decide +kernel⟩ (by decide) (by decide) dL_vow_9 rfl) ?_
  refine hcons (hsnd_g (hk_i2l dL_vow_12 rfl)) ?_
  refine hcons (hsnd_g (hk_lastore dL_vow_13 rfl)) ?_
  refine hcons (hsnd_g (hk_goto dL_vow_14 rfl)) ?_
  refine hcons (hsnd_g (hk_iconst dL_vow_19 rfl rfl)) ?_
  refine hcons (hsnd_g (hk_ireturn rfl dL_vow_20)) ?_
  refine hcons (hsnd_g (hk_iconst dL_vow_23 rfl rfl)) ?_
  refine hcons (hsnd_g (hk_ireturn rfl dL_vow_24)) ?_
  refine hcons (hsnd_g (hk_iconst dL_vow_27 rfl rfl)) ?_
  refine hcons (hsnd_g (hk_ireturn rfl dL_vow_28)) ?_
  refine hcons (hsnd_g (hk_iconst dL_vow_29 rfl rfl)) ?_
  refine hcons (hsnd_g (hk_ireturn rfl dL_vow_30)) ?_
  exact fun _ h => nomatch h
def sp_L_vow : Spc := fun av s N _ => match av with
  | [.inl (.inr (1, 0)), .inl (.inl p0), .inl (.inl p1), .inl (.inl p2), .inl (.inl p3), .inl (.inr (60, 0))] => Lv s 60 0 ∧ sp_X4_vow [aR 1 0, aI p0, aI p1, aI p2, aI p3] s (hNi N) (hX hs_L_vow N)
  | _ => False
set_option maxRecDepth 20000 in
set_option maxHeartbeats 1000000 in
theorem M_L_vow : HMet yL_vow cL_vow 7 (some .int) (hTab 14 hs_L_vow) 11 13 sp_L_vow := by
  refine HMet.mk (own := RL) (by decide) rfl [0, 1, 2, 3, 4, 5, 6] rfl tok_L_vow 60 ?_
  intro av s0 N h
  unfold sp_L_vow at h
  split at h
  rotate_left
  · exact h.elim
  obtain ⟨h60, h⟩ := h
  refine ⟨rfl, by decide, Nat.le_of_ble_eq_true rfl, ⟨rfl, trivial⟩, rfl, rfl, _, _, h, ?_, ?_⟩
  · intro r s1 hN
    unfold hNi at hN
    split at hN
    · exact ⟨h60, ib01, Nat.le_of_ble_eq_true rfl, hN⟩
    · exact hN.elim
  · intro x s1 hX1
    by_cases q1 : x = 1
    · subst q1
      exact ⟨Nat.le_of_ble_eq_true rfl, hX1⟩
    by_cases q2 : x = 2
    · subst q2
      exact ⟨Nat.le_of_ble_eq_true rfl, hX1⟩
    by_cases q3 : x = 3
    · subst q3
      exact ⟨Nat.le_of_ble_eq_true rfl, hX1⟩
    simp [hX, hs_L_vow, hix, Ne.symm q1, Ne.symm q2, Ne.symm q3] at hX1

