/-! VowCourt's public methods: kin, dispensations, vows -/
theorem w_11 : (.selects "VowCourt" ⟨"VowCourt", "hindrances", "(I)I"⟩ ⟨"VowCourt", "hindrances", "(I)I"⟩ : Cond) ∈ TB := TB_mem (List.mem_of_getElem? (i := 11) (by decide +kernel)) rfl
theorem w_14 : (.selects "VowCourt" ⟨"VowCourt", "mayBeJudged", "(I)Z"⟩ ⟨"VowCourt", "mayBeJudged", "(I)Z"⟩ : Cond) ∈ TB := TB_mem (List.mem_of_getElem? (i := 14) (by decide +kernel)) rfl
theorem w_15 : (.selects "VowCourt" ⟨"VowCourt", "isCourtOf", "(LVowCourt$Vow;I)Z"⟩ ⟨"VowCourt", "isCourtOf", "(LVowCourt$Vow;I)Z"⟩ : Cond) ∈ TB := TB_mem (List.mem_of_getElem? (i := 15) (by decide +kernel)) rfl
theorem w_477 : (.fieldLink "VowCourt" 131 "VowCourt$Vow" "lacksForm" "Z" : Cond) ∈ TB := TB_mem (List.mem_of_getElem? (i := 477) (by decide +kernel)) rfl
theorem w_481 : (.fieldLink "VowCourt" 206 "VowCourt$Vow" "turned" "I" : Cond) ∈ TB := TB_mem (List.mem_of_getElem? (i := 481) (by decide +kernel)) rfl
theorem w_510 : (.methodLink "VowCourt" 134 ⟨"VowCourt", "hindrances", "(I)I"⟩ : Cond) ∈ TB := TB_mem (List.mem_of_getElem? (i := 510) (by decide +kernel)) rfl
theorem w_512 : (.instanceMethod ⟨"VowCourt", "hindrances", "(I)I"⟩ : Cond) ∈ TB := TB_mem (List.mem_of_getElem? (i := 512) (by decide +kernel)) rfl
theorem w_513 : (.code yX4_hindrances cX4_hindrances 4 (some .int) : Cond) ∈ TB := TB_mem (List.mem_of_getElem? (i := 513) (by decide +kernel)) rfl
theorem w_542 : (.methodLink "VowCourt" 143 ⟨"VowCourt", "mayBeJudged", "(I)Z"⟩ : Cond) ∈ TB := TB_mem (List.mem_of_getElem? (i := 542) (by decide +kernel)) rfl
theorem w_544 : (.instanceMethod ⟨"VowCourt", "mayBeJudged", "(I)Z"⟩ : Cond) ∈ TB := TB_mem (List.mem_of_getElem? (i := 544) (by decide +kernel)) rfl
theorem w_545 : (.code yX4_mayBeJudged cX4_mayBeJudged 3 (some .boolean) : Cond) ∈ TB := TB_mem (List.mem_of_getElem? (i := 545) (by decide +kernel)) rfl
theorem w_553 : (.methodLink "VowCourt" 149 ⟨"VowCourt", "isCourtOf", "(LVowCourt$Vow;I)Z"⟩ : Cond) ∈ TB := TB_mem (List.mem_of_getElem? (i := 553) (by decide +kernel)) rfl
theorem w_555 : (.instanceMethod ⟨"VowCourt", "isCourtOf", "(LVowCourt$Vow;I)Z"⟩ : Cond) ∈ TB := TB_mem (List.mem_of_getElem? (i := 555) (by decide +kernel)) rfl
theorem w_556 : (.code yX4_isCourtOf cX4_isCourtOf 3 (some .boolean) : Cond) ∈ TB := TB_mem (List.mem_of_getElem? (i := 556) (by decide +kernel)) rfl
theorem w_679 : (.methodLink "VowCourt" 212 ⟨"VowCourt", "isDay", "(I)Z"⟩ : Cond) ∈ TB := TB_mem (List.mem_of_getElem? (i := 679) (by decide +kernel)) rfl
theorem w_680 : (.static ⟨"VowCourt", "isDay", "(I)Z"⟩ : Cond) ∈ TB := TB_mem (List.mem_of_getElem? (i := 680) (by decide +kernel)) rfl
theorem w_681 : (.code yX4_isDay cX4_isDay 1 (some .boolean) : Cond) ∈ TB := TB_mem (List.mem_of_getElem? (i := 681) (by decide +kernel)) rfl
theorem dX4_kin_0 : decode cX4_kin 0 = .ok (.aload_n 0, 1) := by decide +kernel
theorem dX4_kin_1 : decode cX4_kin 1 = .ok (.iload_n 1, 1) := by decide +kernel
theorem dX4_kin_2 : decode cX4_kin 2 = .ok (.invokevirtual 45, 3) := by decide +kernel
theorem dX4_kin_5 : decode cX4_kin 5 = .ok (.ifCond .eq 15, 3) := by decide +kernel
theorem dX4_kin_8 : decode cX4_kin 8 = .ok (.aload_n 0, 1) := by decide +kernel
theorem dX4_kin_9 : decode cX4_kin 9 = .ok (.iload_n 2, 1) := by decide +kernel
theorem dX4_kin_10 : decode cX4_kin 10 = .ok (.invokevirtual 45, 3) := by decide +kernel
theorem dX4_kin_13 : decode cX4_kin 13 = .ok (.ifCond .eq 7, 3) := by decide +kernel
theorem dX4_kin_16 : decode cX4_kin 16 = .ok (.iconst 1, 1) := by decide +kernel
theorem dX4_kin_17 : decode cX4_kin 17 = .ok (.goto 4, 3) := by decide +kernel
theorem dX4_kin_20 : decode cX4_kin 20 = .ok (.iconst 0, 1) := by decide +kernel
theorem dX4_kin_21 : decode cX4_kin 21 = .ok (.invokestatic 49, 3) := by decide +kernel
theorem dX4_kin_24 : decode cX4_kin 24 = .ok (.aload_n 0, 1) := by decide +kernel
theorem dX4_kin_25 : decode cX4_kin 25 = .ok (.getfield 25, 3) := by decide +kernel
theorem dX4_kin_28 : decode cX4_kin 28 = .ok (.iload_n 1, 1) := by decide +kernel
theorem dX4_kin_29 : decode cX4_kin 29 = .ok (.iload_n 2, 1) := by decide +kernel
theorem dX4_kin_30 : decode cX4_kin 30 = .ok (.invokevirtual 193, 3) := by decide +kernel
theorem dX4_kin_33 : decode cX4_kin 33 = .ok (.istore_n 3, 1) := by decide +kernel
theorem dX4_kin_34 : decode cX4_kin 34 = .ok (.iload_n 3, 1) := by decide +kernel
theorem dX4_kin_35 : decode cX4_kin 35 = .ok (.bipush 100, 2) := by decide +kernel
theorem dX4_kin_37 : decode cX4_kin 37 = .ok (.if_icmp .lt 5, 3) := by decide +kernel
theorem dX4_kin_40 : decode cX4_kin 40 = .ok (.iconst (-1), 1) := by decide +kernel
theorem dX4_kin_41 : decode cX4_kin 41 = .ok (.ireturn, 1) := by decide +kernel
theorem dX4_kin_42 : decode cX4_kin 42 = .ok (.bipush 100, 2) := by decide +kernel
theorem dX4_kin_44 : decode cX4_kin 44 = .ok (.iload_n 3, 1) := by decide +kernel
theorem dX4_kin_45 : decode cX4_kin 45 = .ok (.imul, 1) := by decide +kernel
theorem dX4_kin_46 : decode cX4_kin 46 = .ok (.aload_n 0, 1) := by decide +kernel
theorem dX4_kin_47 : decode cX4_kin 47 = .ok (.getfield 25, 3) := by decide +kernel
theorem dX4_kin_50 : decode cX4_kin 50 = .ok (.iload_n 1, 1) := by decide +kernel
theorem dX4_kin_51 : decode cX4_kin 51 = .ok (.iload_n 2, 1) := by decide +kernel
theorem dX4_kin_52 : decode cX4_kin 52 = .ok (.invokevirtual 196, 3) := by decide +kernel
theorem dX4_kin_55 : decode cX4_kin 55 = .ok (.ifCond .eq 7, 3) := by decide +kernel
theorem dX4_kin_58 : decode cX4_kin 58 = .ok (.iconst 1, 1) := by decide +kernel
theorem dX4_kin_59 : decode cX4_kin 59 = .ok (.goto 4, 3) := by decide +kernel
theorem dX4_kin_62 : decode cX4_kin 62 = .ok (.iconst 0, 1) := by decide +kernel
theorem dX4_kin_63 : decode cX4_kin 63 = .ok (.iadd, 1) := by decide +kernel
theorem dX4_kin_64 : decode cX4_kin 64 = .ok (.ireturn, 1) := by decide +kernel
def tab_X4_kin : List (Nat × Sem) := [(0, op_al 0 1), (1, op_il 1 2), (2, op_callV 6 sp_X4_isPerson 2 0 5), (5, op_if (fun x => x = 0) 20 8), (8, op_al 0 9), (9, op_il 2 10), (10, op_callV 6 sp_X4_isPerson 2 0 13), (13, op_if (fun x => x = 0) 20 16), (16, op_ic 1 17), (17, op_go 21), (20, op_ic 0 21), (21, op_call sp_X4_checkIndex 1 1 24), (24, op_al 0 25), (25, op_gf 6 3 28), (28, op_il 1 29), (29, op_il 2 30), (30, op_callV 3 sp_X1_degree 3 0 33), (33, op_is 3 34), (34, op_il 3 35), (35, op_ic 100 37), (37, op_cmp (fun x y => x < y) 42 40), (40, op_ic (-1) 41), (41, op_iret), (42, op_ic 100 44), (44, op_il 3 45), (45, op_bin (fun x y => x * y) 46), (46, op_al 0 47), (47, op_gf 6 3 50), (50, op_il 1 51), (51, op_il 2 52), (52, op_callV 3 sp_X1_inLine 3 0 55), (55, op_if (fun x => x = 0) 62 58), (58, op_ic 1 59), (59, op_go 63), (62, op_ic 0 63), (63, op_bin (fun x y => x + y) 64), (64, op_iret)]
set_option maxRecDepth 20000 in
theorem tok_X4_kin : ∀ q ∈ tab_X4_kin, Snd RX4 cX4_kin 4 7 1 (some .int) q.1 q.2 := by
  unfold tab_X4_kin
  refine tcons (ok_aload_n dX4_kin_0 rfl rfl) ?_
  refine tcons (ok_iload_n dX4_kin_1 rfl rfl) ?_
  refine tcons (ok_invokevirtual M_X4_isPerson (C := RX4) (T := TX4) (nf := 8) rfl w_138 w_140 w_0 w_20 w_141 ⟨rfl, by decide, by decide, by decide +kernel⟩ (by decide) (by decide) dX4_kin_2 rfl) ?_
  refine tcons (ok_if_eq dX4_kin_5 rfl rfl) ?_
  refine tcons (ok_aload_n dX4_kin_8 rfl rfl) ?_
  refine tcons (ok_iload_n dX4_kin_9 rfl rfl) ?_
  refine tcons (ok_invokevirtual M_X4_isPerson (C := RX4) (T := TX4) (nf := 8) rfl w_138 w_140 w_0 w_20 w_141 ⟨rfl, by decide, by decide, by decide +kernel⟩ (by decide) (by decide) dX4_kin_10 rfl) ?_
  refine tcons (ok_if_eq dX4_kin_13 rfl rfl) ?_
  refine tcons (ok_iconst dX4_kin_16 rfl rfl) ?_
  refine tcons (ok_goto dX4_kin_17 rfl) ?_
  refine tcons (ok_iconst dX4_kin_20 rfl rfl) ?_
  refine tcons (ok_invokestatic M_X4_checkIndex w_146 w_147 w_20 w_148 ⟨by decide, by decide, by decide +kernel⟩ (by decide) (by decide) dX4_kin_21 rfl) ?_
  refine tcons (ok_aload_n dX4_kin_24 rfl rfl) ?_
  refine tcons (ok_getfield (C := RX4) (T := TX4) (n := 8) rfl in_X4 (by decide) w_101 dX4_kin_25 rfl) ?_
  refine tcons (ok_iload_n dX4_kin_28 rfl rfl) ?_
  refine tcons (ok_iload_n dX4_kin_29 rfl rfl) ?_
  refine tcons (ok_invokevirtual M_X1_degree (C := RX1) (T := TX1) (nf := 1) rfl w_434 w_431 w_432 w_24 w_433 ⟨rfl, by decide, by decide, by decide +kernel⟩ (by decide) (by decide) dX4_kin_30 rfl) ?_
  refine tcons (ok_istore_n dX4_kin_33 rfl (by decide) rfl) ?_
  refine tcons (ok_iload_n dX4_kin_34 rfl rfl) ?_
  refine tcons (ok_bipush dX4_kin_35 rfl rfl) ?_
  refine tcons (ok_icmp_lt dX4_kin_37 rfl rfl) ?_
  refine tcons (ok_iconst dX4_kin_40 rfl rfl) ?_
  refine tcons (ok_ireturn rfl dX4_kin_41) ?_
  refine tcons (ok_bipush dX4_kin_42 rfl rfl) ?_
  refine tcons (ok_iload_n dX4_kin_44 rfl rfl) ?_
  refine tcons (ok_imul dX4_kin_45 rfl) ?_
  refine tcons (ok_aload_n dX4_kin_46 rfl rfl) ?_
  refine tcons (ok_getfield (C := RX4) (T := TX4) (n := 8) rfl in_X4 (by decide) w_101 dX4_kin_47 rfl) ?_
  refine tcons (ok_iload_n dX4_kin_50 rfl rfl) ?_
  refine tcons (ok_iload_n dX4_kin_51 rfl rfl) ?_
  refine tcons (ok_invokevirtual M_X1_inLine (C := RX1) (T := TX1) (nf := 1) rfl w_426 w_427 w_428 w_24 w_429 ⟨rfl, by decide, by decide, by decide +kernel⟩ (by decide) (by decide) dX4_kin_52 rfl) ?_
  refine tcons (ok_if_eq dX4_kin_55 rfl rfl) ?_
  refine tcons (ok_iconst dX4_kin_58 rfl rfl) ?_
  refine tcons (ok_goto dX4_kin_59 rfl) ?_
  refine tcons (ok_iconst dX4_kin_62 rfl rfl) ?_
  refine tcons (ok_iadd dX4_kin_63 rfl) ?_
  refine tcons (ok_ireturn rfl dX4_kin_64) ?_
  exact fun _ h => nomatch h
def sp_X4_kin : Spc := fun av s N X => match av with
  | [.inl (.inr (1, 0)), .inl (.inl p), .inl (.inl q)] => CI s ∧ chk (iC s 0 p ∧ iC s 0 q) 1 s X ((¬ dgC s p q < 100 → N (some (aI (-1))) s) ∧ (dgC s p q < 100 → ilC s p q → N (some (aI (100 * dgC s p q + 1))) s) ∧ (dgC s p q < 100 → ¬ ilC s p q → N (some (aI (100 * dgC s p q + 0))) s))
  | _ => False
set_option maxRecDepth 20000 in
set_option maxHeartbeats 2000000 in
theorem M_X4_kin : AMet yX4_kin cX4_kin 4 (some .int) 7 1 sp_X4_kin := by
  refine AMet.mc (own := RX4) (by decide) rfl [0, 1, 2, 3] rfl tok_X4_kin 200 ?_
  intro av s0 N X h
  unfold sp_X4_kin at h
  split at h
  rotate_left
  · exact h.elim
  rename_i p q
  obtain ⟨hC, hX, h⟩ := h
  by_cases hp : iC s0 0 p
  · by_cases hq : iC s0 0 q
    · have h := h ⟨hp, hq⟩
      have bp := iC_I hC hp
      have bq := iC_I hC hq
      refine ⟨[], ?_, an⟩
      repeat' (first | apply And.intro | (intro q; exact absurd q (by decide)) | (intro q; with_reducible exact absurd hp q) | (intro q; with_reducible exact absurd hq q) | intro _)
      all_goals first | (with_reducible exact bp) | (with_reducible exact bq) | decide | (exact (rfl : (0 : Nat) = 0)) | (exact Nat.le_of_ble_eq_true rfl) | skip
      · rename_i z1 z2 _
        exact h.2.1 z1 z2
      · rename_i z1 z2 _
        exact h.2.2 z1 z2
      · rename_i z
        exact h.1 z
    · have hX := hX (fun z => hq z.2)
      refine ⟨[], ?_, an⟩
      repeat' (first | apply And.intro | (intro q; exact absurd q (by decide)) | (intro q; with_reducible exact absurd hp q) | (intro q; with_reducible exact absurd q hq) | intro _)
      all_goals first | decide | (exact (rfl : (0 : Nat) = 0)) | (exact Nat.le_of_ble_eq_true rfl) | exact hX
  · have hX := hX (fun z => hp z.1)
    refine ⟨[], ?_, an⟩
    repeat' (first | apply And.intro | (intro q; exact absurd q (by decide)) | (intro q; with_reducible exact absurd q hp) | intro _)
    all_goals first | decide | (exact (rfl : (0 : Nat) = 0)) | (exact Nat.le_of_ble_eq_true rfl) | exact hX
theorem dX4_hindered_0 : decode cX4_hindered 0 = .ok (.aload_n 0, 1) := by decide +kernel
theorem dX4_hindered_1 : decode cX4_hindered 1 = .ok (.iload_n 1, 1) := by decide +kernel
theorem dX4_hindered_2 : decode cX4_hindered 2 = .ok (.invokevirtual 134, 3) := by decide +kernel
theorem dX4_hindered_5 : decode cX4_hindered 5 = .ok (.ireturn, 1) := by decide +kernel
def tab_X4_hindered : List (Nat × Sem) := [(0, op_al 0 1), (1, op_il 1 2), (2, op_callV 6 sp_X4_hindrances 2 1 5), (5, op_iret)]
set_option maxRecDepth 20000 in
theorem tok_X4_hindered : ∀ q ∈ tab_X4_hindered, Snd RX4 cX4_hindered 2 9 1 (some .int) q.1 q.2 := by
  unfold tab_X4_hindered
  refine tcons (ok_aload_n dX4_hindered_0 rfl rfl) ?_
  refine tcons (ok_iload_n dX4_hindered_1 rfl rfl) ?_
  refine tcons (ok_invokevirtual M_X4_hindrances (C := RX4) (T := TX4) (nf := 8) rfl w_510 w_512 w_11 w_20 w_513 ⟨rfl, by decide, by decide, by decide +kernel⟩ (by decide) (by decide) dX4_hindered_2 rfl) ?_
  refine tcons (ok_ireturn rfl dX4_hindered_5) ?_
  exact fun _ h => nomatch h
def sp_X4_hindered : Spc := fun av s N X => match av with
  | [.inl (.inr (1, 0)), .inl (.inl v)] => CI s ∧ chk (iC s 1 v) 1 s X (N (some (aI (hnC s (cl v)))) s)
  | _ => False
set_option maxRecDepth 20000 in
set_option maxHeartbeats 2000000 in
theorem M_X4_hindered : AMet yX4_hindered cX4_hindered 2 (some .int) 9 1 sp_X4_hindered := by
  refine AMet.mk (own := RX4) (by decide) rfl [0, 1] rfl tok_X4_hindered 200 ?_
  intro av s0 N X h
  unfold sp_X4_hindered at h
  split at h
  rotate_left
  · exact h.elim
  refine ⟨fun _ => none, ?_, fun pc P hP => nomatch hP⟩
  repeat' (first | apply And.intro | (intro q; exact absurd q (by decide)) | intro _)
  all_goals first | decide | (exact (rfl : (0 : Nat) = 0)) | (exact Nat.le_of_ble_eq_true rfl) | (exact h.1) | (exact h.2.1 (by assumption)) | (exact h.2.2 (by assumption))
theorem dX4_bound_0 : decode cX4_bound 0 = .ok (.aload_n 0, 1) := by decide +kernel
theorem dX4_bound_1 : decode cX4_bound 1 = .ok (.iload_n 1, 1) := by decide +kernel
theorem dX4_bound_2 : decode cX4_bound 2 = .ok (.invokevirtual 45, 3) := by decide +kernel
theorem dX4_bound_5 : decode cX4_bound 5 = .ok (.invokestatic 49, 3) := by decide +kernel
theorem dX4_bound_8 : decode cX4_bound 8 = .ok (.iload_n 2, 1) := by decide +kernel
theorem dX4_bound_9 : decode cX4_bound 9 = .ok (.invokestatic 212, 3) := by decide +kernel
theorem dX4_bound_12 : decode cX4_bound 12 = .ok (.invokestatic 53, 3) := by decide +kernel
theorem dX4_bound_15 : decode cX4_bound 15 = .ok (.aload_n 0, 1) := by decide +kernel
theorem dX4_bound_16 : decode cX4_bound 16 = .ok (.iload_n 1, 1) := by decide +kernel
theorem dX4_bound_17 : decode cX4_bound 17 = .ok (.iload_n 2, 1) := by decide +kernel
theorem dX4_bound_18 : decode cX4_bound 18 = .ok (.aload_n 0, 1) := by decide +kernel
theorem dX4_bound_19 : decode cX4_bound 19 = .ok (.getfield 16, 3) := by decide +kernel
theorem dX4_bound_22 : decode cX4_bound 22 = .ok (.invokevirtual 60, 3) := by decide +kernel
theorem dX4_bound_25 : decode cX4_bound 25 = .ok (.invokevirtual 215, 3) := by decide +kernel
theorem dX4_bound_28 : decode cX4_bound 28 = .ok (.ireturn, 1) := by decide +kernel
def tab_X4_bound : List (Nat × Sem) := [(0, op_al 0 1), (1, op_il 1 2), (2, op_callV 6 sp_X4_isPerson 2 0 5), (5, op_call sp_X4_checkIndex 1 1 8), (8, op_il 2 9), (9, op_call sp_X4_isDay 1 0 12), (12, op_call sp_X4_checkArgument 1 1 15), (15, op_al 0 16), (16, op_il 1 17), (17, op_il 2 18), (18, op_al 0 19), (19, op_gf 6 1 22), (22, op_callV 1 sp_Jx4a65c_size_8abf5 1 0 25), (25, op_callV 6 sp_X4_lowestBond 4 0 28), (28, op_iret)]
set_option maxRecDepth 20000 in
theorem tok_X4_bound : ∀ q ∈ tab_X4_bound, Snd RX4 cX4_bound 3 7 2 (some .int) q.1 q.2 := by
  unfold tab_X4_bound
  refine tcons (ok_aload_n dX4_bound_0 rfl rfl) ?_
  refine tcons (ok_iload_n dX4_bound_1 rfl rfl) ?_
  refine tcons (ok_invokevirtual M_X4_isPerson (C := RX4) (T := TX4) (nf := 8) rfl w_138 w_140 w_0 w_20 w_141 ⟨rfl, by decide, by decide, by decide +kernel⟩ (by decide) (by decide) dX4_bound_2 rfl) ?_
  refine tcons (ok_invokestatic M_X4_checkIndex w_146 w_147 w_20 w_148 ⟨by decide, by decide, by decide +kernel⟩ (by decide) (by decide) dX4_bound_5 rfl) ?_
  refine tcons (ok_iload_n dX4_bound_8 rfl rfl) ?_
  refine tcons (ok_invokestatic M_X4_isDay w_679 w_680 w_20 w_681 ⟨by decide, by decide, by decide +kernel⟩ (by decide) (by decide) dX4_bound_9 rfl) ?_
  refine tcons (ok_invokestatic M_X4_checkArgument w_217 w_218 w_20 w_219 ⟨by decide, by decide, by decide +kernel⟩ (by decide) (by decide) dX4_bound_12 rfl) ?_
  refine tcons (ok_aload_n dX4_bound_15 rfl rfl) ?_
  refine tcons (ok_iload_n dX4_bound_16 rfl rfl) ?_
  refine tcons (ok_iload_n dX4_bound_17 rfl rfl) ?_
  refine tcons (ok_aload_n dX4_bound_18 rfl rfl) ?_
  refine tcons (ok_getfield (C := RX4) (T := TX4) (n := 8) rfl in_X4 (by decide) w_99 dX4_bound_19 rfl) ?_
  refine tcons (ok_invokevirtual M_Jx4a65c_size_8abf5 (C := RJx4a65c) (T := TJx4a65c) (nf := 3) rfl w_142 w_143 w_144 w_23 w_145 ⟨rfl, by decide, by decide, by decide +kernel⟩ (by decide) (by decide) dX4_bound_22 rfl) ?_
  refine tcons (ok_invokevirtual M_X4_lowestBond (C := RX4) (T := TX4) (nf := 8) rfl w_514 w_516 w_12 w_20 w_517 ⟨rfl, by decide, by decide, by decide +kernel⟩ (by decide) (by decide) dX4_bound_25 rfl) ?_
  refine tcons (ok_ireturn rfl dX4_bound_28) ?_
  exact fun _ h => nomatch h
def sp_X4_bound : Spc := fun av s N X => match av with
  | [.inl (.inr (1, 0)), .inl (.inl p), .inl (.inl t)] => CI s ∧ chk (iC s 0 p) 1 s X (chk (0 ≤ t ∧ t ≤ 1000000) 2 s X (N (some (aI (lbC s p t (s.1 1) 0))) s))
  | _ => False
set_option maxRecDepth 20000 in
set_option maxHeartbeats 2000000 in
theorem M_X4_bound : AMet yX4_bound cX4_bound 3 (some .int) 7 2 sp_X4_bound := by
  refine AMet.mk (own := RX4) (by decide) rfl [0, 1, 2] rfl tok_X4_bound 200 ?_
  intro av s0 N X h
  unfold sp_X4_bound at h
  split at h
  rotate_left
  · exact h.elim
  refine ⟨fun _ => none, ?_, fun pc P hP => nomatch hP⟩
  repeat' (first | apply And.intro | (intro q; exact absurd q (by decide)) | intro _)
  all_goals first | decide | (exact (rfl : (0 : Nat) = 0)) | (exact Nat.le_of_ble_eq_true rfl) | (exact h.1) | (exact h.2.1 (by assumption)) | (exact (h.2.2 (by assumption)).1 (by assumption)) | (refine ⟨s0.1 1, rfl, Nat.le_refl _, ?_⟩; exact ⟨Nat.le_of_ble_eq_true rfl, (h.2.2 (by assumption)).2 (by assumption)⟩)
def vw5 (s : Sg) (v : Nat) (k : Int32) (N : Nt) : Prop := (k = 0 → N (some (aI (s.2.1 13 v 6))) s) ∧ (k = 1 → N (some (aI (s.2.1 13 v 3))) s) ∧ (k = 2 → N (some (aI (s.2.1 13 v 7))) s) ∧ (k = 3 → ¬ s.2.1 13 v 5 = 0 → N (some (aI 1)) s) ∧ (k = 3 → s.2.1 13 v 5 = 0 → N (some (aI 0)) s) ∧ (¬ k = 0 → ¬ k = 1 → ¬ k = 2 → ¬ k = 3 → N (some (aI (s.2.1 13 v 2))) s)
theorem dX4_vowOf_0 : decode cX4_vowOf 0 = .ok (.aload_n 0, 1) := by decide +kernel
theorem dX4_vowOf_1 : decode cX4_vowOf 1 = .ok (.iload_n 1, 1) := by decide +kernel
theorem dX4_vowOf_2 : decode cX4_vowOf 2 = .ok (.invokevirtual 124, 3) := by decide +kernel
theorem dX4_vowOf_5 : decode cX4_vowOf 5 = .ok (.astore_n 3, 1) := by decide +kernel
theorem dX4_vowOf_6 : decode cX4_vowOf 6 = .ok (.iload_n 2, 1) := by decide +kernel
theorem dX4_vowOf_7 : decode cX4_vowOf 7 = .ok (.ifCond .lt 12, 3) := by decide +kernel
theorem dX4_vowOf_10 : decode cX4_vowOf 10 = .ok (.iload_n 2, 1) := by decide +kernel
theorem dX4_vowOf_11 : decode cX4_vowOf 11 = .ok (.iconst 5, 1) := by decide +kernel
theorem dX4_vowOf_12 : decode cX4_vowOf 12 = .ok (.if_icmp .ge 7, 3) := by decide +kernel
theorem dX4_vowOf_15 : decode cX4_vowOf 15 = .ok (.iconst 1, 1) := by decide +kernel
theorem dX4_vowOf_16 : decode cX4_vowOf 16 = .ok (.goto 4, 3) := by decide +kernel
theorem dX4_vowOf_19 : decode cX4_vowOf 19 = .ok (.iconst 0, 1) := by decide +kernel
theorem dX4_vowOf_20 : decode cX4_vowOf 20 = .ok (.invokestatic 53, 3) := by decide +kernel
theorem dX4_vowOf_23 : decode cX4_vowOf 23 = .ok (.iload_n 2, 1) := by decide +kernel
theorem dX4_vowOf_24 : decode cX4_vowOf 24 = .ok (.tableswitch 60 0 3 #[32, 37, 42, 47], 32) := by decide +kernel
theorem dX4_vowOf_56 : decode cX4_vowOf 56 = .ok (.aload_n 3, 1) := by decide +kernel
theorem dX4_vowOf_57 : decode cX4_vowOf 57 = .ok (.getfield 128, 3) := by decide +kernel
theorem dX4_vowOf_60 : decode cX4_vowOf 60 = .ok (.ireturn, 1) := by decide +kernel
theorem dX4_vowOf_61 : decode cX4_vowOf 61 = .ok (.aload_n 3, 1) := by decide +kernel
theorem dX4_vowOf_62 : decode cX4_vowOf 62 = .ok (.getfield 203, 3) := by decide +kernel
theorem dX4_vowOf_65 : decode cX4_vowOf 65 = .ok (.ireturn, 1) := by decide +kernel
theorem dX4_vowOf_66 : decode cX4_vowOf 66 = .ok (.aload_n 3, 1) := by decide +kernel
theorem dX4_vowOf_67 : decode cX4_vowOf 67 = .ok (.getfield 206, 3) := by decide +kernel
theorem dX4_vowOf_70 : decode cX4_vowOf 70 = .ok (.ireturn, 1) := by decide +kernel
theorem dX4_vowOf_71 : decode cX4_vowOf 71 = .ok (.aload_n 3, 1) := by decide +kernel
theorem dX4_vowOf_72 : decode cX4_vowOf 72 = .ok (.getfield 131, 3) := by decide +kernel
theorem dX4_vowOf_75 : decode cX4_vowOf 75 = .ok (.ifCond .eq 7, 3) := by decide +kernel
theorem dX4_vowOf_78 : decode cX4_vowOf 78 = .ok (.iconst 1, 1) := by decide +kernel
theorem dX4_vowOf_79 : decode cX4_vowOf 79 = .ok (.goto 4, 3) := by decide +kernel
theorem dX4_vowOf_82 : decode cX4_vowOf 82 = .ok (.iconst 0, 1) := by decide +kernel
theorem dX4_vowOf_83 : decode cX4_vowOf 83 = .ok (.ireturn, 1) := by decide +kernel
theorem dX4_vowOf_84 : decode cX4_vowOf 84 = .ok (.aload_n 3, 1) := by decide +kernel
theorem dX4_vowOf_85 : decode cX4_vowOf 85 = .ok (.getfield 209, 3) := by decide +kernel
theorem dX4_vowOf_88 : decode cX4_vowOf 88 = .ok (.ireturn, 1) := by decide +kernel
def tab_X4_vowOf : List (Nat × Sem) := [(0, op_al 0 1), (1, op_il 1 2), (2, op_callV 6 sp_X4_vowAt 2 1 5), (5, op_as 3 6), (6, op_il 2 7), (7, op_if (fun x => x < 0) 19 10), (10, op_il 2 11), (11, op_ic 5 12), (12, op_cmp (fun x y => y ≤ x) 19 15), (15, op_ic 1 16), (16, op_go 20), (19, op_ic 0 20), (20, op_call sp_X4_checkArgument 1 1 23), (23, op_il 2 24), (24, op_sw [(0, 56), (1, 61), (2, 66), (3, 71)] 84), (56, op_al 3 57), (57, op_gf 5 6 60), (60, op_iret), (61, op_al 3 62), (62, op_gf 5 3 65), (65, op_iret), (66, op_al 3 67), (67, op_gf 5 7 70), (70, op_iret), (71, op_al 3 72), (72, op_gf 5 5 75), (75, op_if (fun x => x = 0) 82 78), (78, op_ic 1 79), (79, op_go 83), (82, op_ic 0 83), (83, op_iret), (84, op_al 3 85), (85, op_gf 5 2 88), (88, op_iret)]
set_option maxRecDepth 20000 in
theorem tok_X4_vowOf : ∀ q ∈ tab_X4_vowOf, Snd RX4 cX4_vowOf 4 8 2 (some .int) q.1 q.2 := by
  unfold tab_X4_vowOf
  refine tcons (ok_aload_n dX4_vowOf_0 rfl rfl) ?_
  refine tcons (ok_iload_n dX4_vowOf_1 rfl rfl) ?_
  refine tcons (ok_invokevirtual M_X4_vowAt (C := RX4) (T := TX4) (nf := 8) rfl w_506 w_508 w_10 w_20 w_509 ⟨rfl, by decide, by decide, by decide +kernel⟩ (by decide) (by decide) dX4_vowOf_2 rfl) ?_
  refine tcons (ok_astore_n dX4_vowOf_5 rfl (by decide) rfl) ?_
  refine tcons (ok_iload_n dX4_vowOf_6 rfl rfl) ?_
  refine tcons (ok_if_lt dX4_vowOf_7 rfl rfl) ?_
  refine tcons (ok_iload_n dX4_vowOf_10 rfl rfl) ?_
  refine tcons (ok_iconst dX4_vowOf_11 rfl rfl) ?_
  refine tcons (ok_icmp_ge dX4_vowOf_12 rfl rfl) ?_
  refine tcons (ok_iconst dX4_vowOf_15 rfl rfl) ?_
  refine tcons (ok_goto dX4_vowOf_16 rfl) ?_
  refine tcons (ok_iconst dX4_vowOf_19 rfl rfl) ?_
  refine tcons (ok_invokestatic M_X4_checkArgument w_217 w_218 w_20 w_219 ⟨by decide, by decide, by decide +kernel⟩ (by decide) (by decide) dX4_vowOf_20 rfl) ?_
  refine tcons (ok_iload_n dX4_vowOf_23 rfl rfl) ?_
  refine tcons (ok_table rfl rfl rfl rfl dX4_vowOf_24) ?_
  refine tcons (ok_aload_n dX4_vowOf_56 rfl rfl) ?_
  refine tcons (ok_getfield (C := RX3) (T := TX3) (n := 8) rfl in_X3 (by decide) w_479 dX4_vowOf_57 rfl) ?_
  refine tcons (ok_ireturn rfl dX4_vowOf_60) ?_
  refine tcons (ok_aload_n dX4_vowOf_61 rfl rfl) ?_
  refine tcons (ok_getfield (C := RX3) (T := TX3) (n := 8) rfl in_X3 (by decide) w_473 dX4_vowOf_62 rfl) ?_
  refine tcons (ok_ireturn rfl dX4_vowOf_65) ?_
  refine tcons (ok_aload_n dX4_vowOf_66 rfl rfl) ?_
  refine tcons (ok_getfield (C := RX3) (T := TX3) (n := 8) rfl in_X3 (by decide) w_481 dX4_vowOf_67 rfl) ?_
  refine tcons (ok_ireturn rfl dX4_vowOf_70) ?_
  refine tcons (ok_aload_n dX4_vowOf_71 rfl rfl) ?_
  refine tcons (ok_getfield (C := RX3) (T := TX3) (n := 8) rfl in_X3 (by decide) w_477 dX4_vowOf_72 rfl) ?_
  refine tcons (ok_if_eq dX4_vowOf_75 rfl rfl) ?_
  refine tcons (ok_iconst dX4_vowOf_78 rfl rfl) ?_
  refine tcons (ok_goto dX4_vowOf_79 rfl) ?_
  refine tcons (ok_iconst dX4_vowOf_82 rfl rfl) ?_
  refine tcons (ok_ireturn rfl dX4_vowOf_83) ?_
  refine tcons (ok_aload_n dX4_vowOf_84 rfl rfl) ?_
  refine tcons (ok_getfield (C := RX3) (T := TX3) (n := 8) rfl in_X3 (by decide) w_471 dX4_vowOf_85 rfl) ?_
  refine tcons (ok_ireturn rfl dX4_vowOf_88) ?_
  exact fun _ h => nomatch h
def sp_X4_vowOf : Spc := fun av s N X => match av with
  | [.inl (.inr (1, 0)), .inl (.inl v), .inl (.inl k)] => CI s ∧ chk (iC s 1 v) 1 s X (chk (0 ≤ k ∧ k < 5) 2 s X (vw5 s (cl v) k N))
  | _ => False
set_option maxRecDepth 20000 in
set_option maxHeartbeats 2000000 in
theorem M_X4_vowOf : AMet yX4_vowOf cX4_vowOf 4 (some .int) 8 2 sp_X4_vowOf := by
  refine AMet.mk (own := RX4) (by decide) rfl [0, 1, 2, 3] rfl tok_X4_vowOf 200 ?_
  intro av s0 N X h
  unfold sp_X4_vowOf at h
  split at h
  rotate_left
  · exact h.elim
  refine ⟨fun _ => none, ?_, fun pc P hP => nomatch hP⟩
  repeat' (first | apply And.intro | (intro q; exact absurd q (by decide)) | intro _)
  all_goals first | decide | (exact (rfl : (0 : Nat) = 0)) | (exact Nat.le_of_ble_eq_true rfl) | (exact h.1) | (exact iC_v h.1 (by assumption)) | (simp_all [-Int32.not_lt, -Int32.not_le, chk, vw5]; done) | (simp_all [-Int32.not_lt, -Int32.not_le, ← Int32.not_le, chk, vw5]; done) | (simp_all [chk, vw5]; done)
theorem dX4_hasCause_0 : decode cX4_hasCause 0 = .ok (.aload_n 0, 1) := by decide +kernel
theorem dX4_hasCause_1 : decode cX4_hasCause 1 = .ok (.iload_n 1, 1) := by decide +kernel
theorem dX4_hasCause_2 : decode cX4_hasCause 2 = .ok (.invokevirtual 124, 3) := by decide +kernel
theorem dX4_hasCause_5 : decode cX4_hasCause 5 = .ok (.astore_n 3, 1) := by decide +kernel
theorem dX4_hasCause_6 : decode cX4_hasCause 6 = .ok (.iload_n 2, 1) := by decide +kernel
theorem dX4_hasCause_7 : decode cX4_hasCause 7 = .ok (.invokestatic 57, 3) := by decide +kernel
theorem dX4_hasCause_10 : decode cX4_hasCause 10 = .ok (.invokestatic 53, 3) := by decide +kernel
theorem dX4_hasCause_13 : decode cX4_hasCause 13 = .ok (.aload_n 0, 1) := by decide +kernel
theorem dX4_hasCause_14 : decode cX4_hasCause 14 = .ok (.aload_n 3, 1) := by decide +kernel
theorem dX4_hasCause_15 : decode cX4_hasCause 15 = .ok (.iload_n 2, 1) := by decide +kernel
theorem dX4_hasCause_16 : decode cX4_hasCause 16 = .ok (.invokevirtual 149, 3) := by decide +kernel
theorem dX4_hasCause_19 : decode cX4_hasCause 19 = .ok (.ireturn, 1) := by decide +kernel
def tab_X4_hasCause : List (Nat × Sem) := [(0, op_al 0 1), (1, op_il 1 2), (2, op_callV 6 sp_X4_vowAt 2 1 5), (5, op_as 3 6), (6, op_il 2 7), (7, op_call sp_X4_isPlace 1 0 10), (10, op_call sp_X4_checkArgument 1 1 13), (13, op_al 0 14), (14, op_al 3 15), (15, op_il 2 16), (16, op_callV 6 sp_X4_isCourtOf 3 2 19), (19, op_zret)]
set_option maxRecDepth 20000 in
theorem tok_X4_hasCause : ∀ q ∈ tab_X4_hasCause, Snd RX4 cX4_hasCause 4 10 4 (some .boolean) q.1 q.2 := by
  unfold tab_X4_hasCause
  refine tcons (ok_aload_n dX4_hasCause_0 rfl rfl) ?_
  refine tcons (ok_iload_n dX4_hasCause_1 rfl rfl) ?_
  refine tcons (ok_invokevirtual M_X4_vowAt (C := RX4) (T := TX4) (nf := 8) rfl w_506 w_508 w_10 w_20 w_509 ⟨rfl, by decide, by decide, by decide +kernel⟩ (by decide) (by decide) dX4_hasCause_2 rfl) ?_
  refine tcons (ok_astore_n dX4_hasCause_5 rfl (by decide) rfl) ?_
  refine tcons (ok_iload_n dX4_hasCause_6 rfl rfl) ?_
  refine tcons (ok_invokestatic M_X4_isPlace w_237 w_238 w_20 w_239 ⟨by decide, by decide, by decide +kernel⟩ (by decide) (by decide) dX4_hasCause_7 rfl) ?_
  refine tcons (ok_invokestatic M_X4_checkArgument w_217 w_218 w_20 w_219 ⟨by decide, by decide, by decide +kernel⟩ (by decide) (by decide) dX4_hasCause_10 rfl) ?_
  refine tcons (ok_aload_n dX4_hasCause_13 rfl rfl) ?_
  refine tcons (ok_aload_n dX4_hasCause_14 rfl rfl) ?_
  refine tcons (ok_iload_n dX4_hasCause_15 rfl rfl) ?_
  refine tcons (ok_invokevirtual M_X4_isCourtOf (C := RX4) (T := TX4) (nf := 8) rfl w_553 w_555 w_15 w_20 w_556 ⟨rfl, by decide, by decide, by decide +kernel⟩ (by decide) (by decide) dX4_hasCause_16 rfl) ?_
  refine tcons (ok_zreturn rfl (Or.inl rfl) dX4_hasCause_19) ?_
  exact fun _ h => nomatch h
def sp_X4_hasCause : Spc := fun av s N X => match av with
  | [.inl (.inr (1, 0)), .inl (.inl v), .inl (.inl a)] => CI s ∧ chk (iC s 1 v) 1 s X (chk (0 ≤ a ∧ a < 8) 2 s X (br (icourt s (cl v) a) N s))
  | _ => False
set_option maxRecDepth 20000 in
set_option maxHeartbeats 2000000 in
theorem M_X4_hasCause : AMet yX4_hasCause cX4_hasCause 4 (some .boolean) 10 4 sp_X4_hasCause := by
  refine AMet.mk (own := RX4) (by decide) rfl [0, 1, 2, 3] rfl tok_X4_hasCause 200 ?_
  intro av s0 N X h
  unfold sp_X4_hasCause at h
  split at h
  rotate_left
  · exact h.elim
  refine ⟨fun _ => none, ?_, fun pc P hP => nomatch hP⟩
  repeat' (first | apply And.intro | (intro q; exact absurd q (by decide)) | intro _)
  all_goals first | decide | (exact (rfl : (0 : Nat) = 0)) | (exact Nat.le_of_ble_eq_true rfl) | (exact h.1) | (exact iC_v h.1 (by assumption)) | (exact h.2.1 (by assumption)) | (exact (h.2.2 (by assumption)).1 (by assumption)) | (exact ((h.2.2 (by assumption)).2 (by assumption)).1 (by assumption)) | (exact ((h.2.2 (by assumption)).2 (by assumption)).2 (by assumption))
theorem dX4_heal_0 : decode cX4_heal 0 = .ok (.aload_n 0, 1) := by decide +kernel
theorem dX4_heal_1 : decode cX4_heal 1 = .ok (.iload_n 1, 1) := by decide +kernel
theorem dX4_heal_2 : decode cX4_heal 2 = .ok (.invokevirtual 124, 3) := by decide +kernel
theorem dX4_heal_5 : decode cX4_heal 5 = .ok (.astore_n 2, 1) := by decide +kernel
theorem dX4_heal_6 : decode cX4_heal 6 = .ok (.aload_n 2, 1) := by decide +kernel
theorem dX4_heal_7 : decode cX4_heal 7 = .ok (.getfield 128, 3) := by decide +kernel
theorem dX4_heal_10 : decode cX4_heal 10 = .ok (.ifCond .ne 22, 3) := by decide +kernel
theorem dX4_heal_13 : decode cX4_heal 13 = .ok (.aload_n 2, 1) := by decide +kernel
theorem dX4_heal_14 : decode cX4_heal 14 = .ok (.getfield 131, 3) := by decide +kernel
theorem dX4_heal_17 : decode cX4_heal 17 = .ok (.ifCond .eq 15, 3) := by decide +kernel
theorem dX4_heal_20 : decode cX4_heal 20 = .ok (.aload_n 0, 1) := by decide +kernel
theorem dX4_heal_21 : decode cX4_heal 21 = .ok (.iload_n 1, 1) := by decide +kernel
theorem dX4_heal_22 : decode cX4_heal 22 = .ok (.invokevirtual 134, 3) := by decide +kernel
theorem dX4_heal_25 : decode cX4_heal 25 = .ok (.ifCond .ne 7, 3) := by decide +kernel
theorem dX4_heal_28 : decode cX4_heal 28 = .ok (.iconst 1, 1) := by decide +kernel
theorem dX4_heal_29 : decode cX4_heal 29 = .ok (.goto 4, 3) := by decide +kernel
theorem dX4_heal_32 : decode cX4_heal 32 = .ok (.iconst 0, 1) := by decide +kernel
theorem dX4_heal_33 : decode cX4_heal 33 = .ok (.invokestatic 64, 3) := by decide +kernel
theorem dX4_heal_36 : decode cX4_heal 36 = .ok (.aload_n 2, 1) := by decide +kernel
theorem dX4_heal_37 : decode cX4_heal 37 = .ok (.iconst 0, 1) := by decide +kernel
theorem dX4_heal_38 : decode cX4_heal 38 = .ok (.putfield 131, 3) := by decide +kernel
theorem dX4_heal_41 : decode cX4_heal 41 = .ok (.return_, 1) := by decide +kernel
def tab_X4_heal : List (Nat × Sem) := [(0, op_al 0 1), (1, op_il 1 2), (2, op_callV 6 sp_X4_vowAt 2 1 5), (5, op_as 2 6), (6, op_al 2 7), (7, op_gf 5 6 10), (10, op_if (fun x => ¬ x = 0) 32 13), (13, op_al 2 14), (14, op_gf 5 5 17), (17, op_if (fun x => x = 0) 32 20), (20, op_al 0 21), (21, op_il 1 22), (22, op_callV 6 sp_X4_hindrances 2 1 25), (25, op_if (fun x => ¬ x = 0) 32 28), (28, op_ic 1 29), (29, op_go 33), (32, op_ic 0 33), (33, op_call sp_X4_checkPossible 1 1 36), (36, op_al 2 37), (37, op_ic 0 38), (38, op_pf 5 5 41), (41, op_vret)]
set_option maxRecDepth 20000 in
theorem tok_X4_heal : ∀ q ∈ tab_X4_heal, Snd RX4 cX4_heal 3 9 3 none q.1 q.2 := by
  unfold tab_X4_heal
  refine tcons (ok_aload_n dX4_heal_0 rfl rfl) ?_
  refine tcons (ok_iload_n dX4_heal_1 rfl rfl) ?_
  refine tcons (ok_invokevirtual M_X4_vowAt (C := RX4) (T := TX4) (nf := 8) rfl w_506 w_508 w_10 w_20 w_509 ⟨rfl, by decide, by decide, by decide +kernel⟩ (by decide) (by decide) dX4_heal_2 rfl) ?_
  refine tcons (ok_astore_n dX4_heal_5 rfl (by decide) rfl) ?_
  refine tcons (ok_aload_n dX4_heal_6 rfl rfl) ?_
  refine tcons (ok_getfield (C := RX3) (T := TX3) (n := 8) rfl in_X3 (by decide) w_479 dX4_heal_7 rfl) ?_
  refine tcons (ok_if_ne dX4_heal_10 rfl rfl) ?_
  refine tcons (ok_aload_n dX4_heal_13 rfl rfl) ?_
  refine tcons (ok_getfield (C := RX3) (T := TX3) (n := 8) rfl in_X3 (by decide) w_477 dX4_heal_14 rfl) ?_
  refine tcons (ok_if_eq dX4_heal_17 rfl rfl) ?_
  refine tcons (ok_aload_n dX4_heal_20 rfl rfl) ?_
  refine tcons (ok_iload_n dX4_heal_21 rfl rfl) ?_
  refine tcons (ok_invokevirtual M_X4_hindrances (C := RX4) (T := TX4) (nf := 8) rfl w_510 w_512 w_11 w_20 w_513 ⟨rfl, by decide, by decide, by decide +kernel⟩ (by decide) (by decide) dX4_heal_22 rfl) ?_
  refine tcons (ok_if_ne dX4_heal_25 rfl rfl) ?_
  refine tcons (ok_iconst dX4_heal_28 rfl rfl) ?_
  refine tcons (ok_goto dX4_heal_29 rfl) ?_
  refine tcons (ok_iconst dX4_heal_32 rfl rfl) ?_
  refine tcons (ok_invokestatic M_X4_checkPossible w_240 w_241 w_20 w_242 ⟨by decide, by decide, by decide +kernel⟩ (by decide) (by decide) dX4_heal_33 rfl) ?_
  refine tcons (ok_aload_n dX4_heal_36 rfl rfl) ?_
  refine tcons (ok_iconst dX4_heal_37 rfl rfl) ?_
  refine tcons (ok_putfield (C := RX3) (T := TX3) (n := 8) tyX3 .boolean rfl in_X3 tyX3_ok nmX3 (by decide) rfl w_477 rfl (Or.inr ⟨rfl, zf_5_5⟩) dX4_heal_38 rfl) ?_
  refine tcons (ok_vreturn rfl dX4_heal_41) ?_
  exact fun _ h => nomatch h
def sp_X4_heal : Spc := fun av s N X => match av with
  | [.inl (.inr (1, 0)), .inl (.inl v)] => CI s ∧ chk (iC s 1 v) 1 s X (chk (s.2.1 13 (cl v) 6 = 0 ∧ ¬ s.2.1 13 (cl v) 5 = 0 ∧ hnC s (cl v) = 0) 3 s X (N none (stS s 13 (cl v) 5 0)))
  | _ => False
set_option maxRecDepth 20000 in
set_option maxHeartbeats 2000000 in
theorem M_X4_heal : AMet yX4_heal cX4_heal 3 none 9 3 sp_X4_heal := by
  refine AMet.mk (own := RX4) (by decide) rfl [0, 1, 2] rfl tok_X4_heal 200 ?_
  intro av s0 N X h
  unfold sp_X4_heal at h
  split at h
  rotate_left
  · exact h.elim
  refine ⟨fun _ => none, ?_, fun pc P hP => nomatch hP⟩
  repeat' (first | apply And.intro | (intro q; exact absurd q (by decide)) | intro _)
  all_goals first | decide | (exact (rfl : (0 : Nat) = 0)) | (exact Nat.le_of_ble_eq_true rfl) | (exact h.1) | (exact iC_v h.1 (by assumption)) | (exact absurd (by assumption) (by assumption : ¬ iC s0 1 _)) | (simp_all [-Int32.not_lt, -Int32.not_le, chk]; done) | (simp_all [-Int32.not_lt, -Int32.not_le, ← Int32.not_le, chk]; done) | (simp_all [chk]; done)
theorem dX4_grace_0 : decode cX4_grace 0 = .ok (.aload_n 0, 1) := by decide +kernel
theorem dX4_grace_1 : decode cX4_grace 1 = .ok (.iload_n 1, 1) := by decide +kernel
theorem dX4_grace_2 : decode cX4_grace 2 = .ok (.invokevirtual 124, 3) := by decide +kernel
theorem dX4_grace_5 : decode cX4_grace 5 = .ok (.astore_n 2, 1) := by decide +kernel
theorem dX4_grace_6 : decode cX4_grace 6 = .ok (.aload_n 2, 1) := by decide +kernel
theorem dX4_grace_7 : decode cX4_grace 7 = .ok (.getfield 128, 3) := by decide +kernel
theorem dX4_grace_10 : decode cX4_grace 10 = .ok (.ifCond .ne 15, 3) := by decide +kernel
theorem dX4_grace_13 : decode cX4_grace 13 = .ok (.aload_n 0, 1) := by decide +kernel
theorem dX4_grace_14 : decode cX4_grace 14 = .ok (.iload_n 1, 1) := by decide +kernel
theorem dX4_grace_15 : decode cX4_grace 15 = .ok (.invokevirtual 137, 3) := by decide +kernel
theorem dX4_grace_18 : decode cX4_grace 18 = .ok (.ifCond .ne 7, 3) := by decide +kernel
theorem dX4_grace_21 : decode cX4_grace 21 = .ok (.iconst 1, 1) := by decide +kernel
theorem dX4_grace_22 : decode cX4_grace 22 = .ok (.goto 4, 3) := by decide +kernel
theorem dX4_grace_25 : decode cX4_grace 25 = .ok (.iconst 0, 1) := by decide +kernel
theorem dX4_grace_26 : decode cX4_grace 26 = .ok (.invokestatic 64, 3) := by decide +kernel
theorem dX4_grace_29 : decode cX4_grace 29 = .ok (.aload_n 2, 1) := by decide +kernel
theorem dX4_grace_30 : decode cX4_grace 30 = .ok (.iconst 2, 1) := by decide +kernel
theorem dX4_grace_31 : decode cX4_grace 31 = .ok (.aload_n 0, 1) := by decide +kernel
theorem dX4_grace_32 : decode cX4_grace 32 = .ok (.getfield 41, 3) := by decide +kernel
theorem dX4_grace_35 : decode cX4_grace 35 = .ok (.invokevirtual 140, 3) := by decide +kernel
theorem dX4_grace_38 : decode cX4_grace 38 = .ok (.return_, 1) := by decide +kernel
def tab_X4_grace : List (Nat × Sem) := [(0, op_al 0 1), (1, op_il 1 2), (2, op_callV 6 sp_X4_vowAt 2 1 5), (5, op_as 2 6), (6, op_al 2 7), (7, op_gf 5 6 10), (10, op_if (fun x => ¬ x = 0) 25 13), (13, op_al 0 14), (14, op_il 1 15), (15, op_callV 6 sp_X4_isInCourt 2 0 18), (18, op_if (fun x => ¬ x = 0) 25 21), (21, op_ic 1 22), (22, op_go 26), (25, op_ic 0 26), (26, op_call sp_X4_checkPossible 1 1 29), (29, op_al 2 30), (30, op_ic 2 31), (31, op_al 0 32), (32, op_gf 6 7 35), (35, op_callV 5 sp_X3_turn 3 0 38), (38, op_vret)]
set_option maxRecDepth 20000 in
theorem tok_X4_grace : ∀ q ∈ tab_X4_grace, Snd RX4 cX4_grace 3 8 2 none q.1 q.2 := by
  unfold tab_X4_grace
  refine tcons (ok_aload_n dX4_grace_0 rfl rfl) ?_
  refine tcons (ok_iload_n dX4_grace_1 rfl rfl) ?_
  refine tcons (ok_invokevirtual M_X4_vowAt (C := RX4) (T := TX4) (nf := 8) rfl w_506 w_508 w_10 w_20 w_509 ⟨rfl, by decide, by decide, by decide +kernel⟩ (by decide) (by decide) dX4_grace_2 rfl) ?_
  refine tcons (ok_astore_n dX4_grace_5 rfl (by decide) rfl) ?_
  refine tcons (ok_aload_n dX4_grace_6 rfl rfl) ?_
  refine tcons (ok_getfield (C := RX3) (T := TX3) (n := 8) rfl in_X3 (by decide) w_479 dX4_grace_7 rfl) ?_
  refine tcons (ok_if_ne dX4_grace_10 rfl rfl) ?_
  refine tcons (ok_aload_n dX4_grace_13 rfl rfl) ?_
  refine tcons (ok_iload_n dX4_grace_14 rfl rfl) ?_
  refine tcons (ok_invokevirtual M_X4_isInCourt (C := RX4) (T := TX4) (nf := 8) rfl w_529 w_531 w_13 w_20 w_532 ⟨rfl, by decide, by decide, by decide +kernel⟩ (by decide) (by decide) dX4_grace_15 rfl) ?_
  refine tcons (ok_if_ne dX4_grace_18 rfl rfl) ?_
  refine tcons (ok_iconst dX4_grace_21 rfl rfl) ?_
  refine tcons (ok_goto dX4_grace_22 rfl) ?_
  refine tcons (ok_iconst dX4_grace_25 rfl rfl) ?_
  refine tcons (ok_invokestatic M_X4_checkPossible w_240 w_241 w_20 w_242 ⟨by decide, by decide, by decide +kernel⟩ (by decide) (by decide) dX4_grace_26 rfl) ?_
  refine tcons (ok_aload_n dX4_grace_29 rfl rfl) ?_
  refine tcons (ok_iconst dX4_grace_30 rfl rfl) ?_
  refine tcons (ok_aload_n dX4_grace_31 rfl rfl) ?_
  refine tcons (ok_getfield (C := RX4) (T := TX4) (n := 8) rfl in_X4 (by decide) w_105 dX4_grace_32 rfl) ?_
  refine tcons (ok_invokevirtual M_X3_turn (C := RX3) (T := TX3) (nf := 8) rfl w_406 w_407 w_408 w_38 w_409 ⟨rfl, by decide, by decide, by decide +kernel⟩ (by decide) (by decide) dX4_grace_35 rfl) ?_
  refine tcons (ok_vreturn rfl dX4_grace_38) ?_
  exact fun _ h => nomatch h
def sp_X4_grace : Spc := fun av s N X => match av with
  | [.inl (.inr (1, 0)), .inl (.inl v)] => CI s ∧ chk (iC s 1 v) 1 s X (chk (s.2.1 13 (cl v) 6 = 0 ∧ ¬ inct s v) 3 s X (N none (stS (stS s 13 (cl v) 6 2) 13 (cl v) 7 (s.2.1 1 0 7))))
  | _ => False
set_option maxRecDepth 20000 in
set_option maxHeartbeats 2000000 in
theorem M_X4_grace : AMet yX4_grace cX4_grace 3 none 8 2 sp_X4_grace := by
  refine AMet.mk (own := RX4) (by decide) rfl [0, 1, 2] rfl tok_X4_grace 200 ?_
  intro av s0 N X h
  unfold sp_X4_grace at h
  split at h
  rotate_left
  · exact h.elim
  refine ⟨fun _ => none, ?_, fun pc P hP => nomatch hP⟩
  repeat' (first | apply And.intro | (intro q; exact absurd q (by decide)) | intro _)
  all_goals first | decide | (exact (rfl : (0 : Nat) = 0)) | (exact Nat.le_of_ble_eq_true rfl) | (exact h.1) | (exact iC_v h.1 (by assumption)) | (simp_all [-Int32.not_lt, -Int32.not_le, chk]; done) | (simp_all [-Int32.not_lt, -Int32.not_le, ← Int32.not_le, chk]; done) | (simp_all [chk]; done)
noncomputable def dcC (s : Sg) (v : Nat) : Int32 := hnC s v + iteP (s.2.1 13 v 5 = 0) 0 16
theorem dX4_documents_0 : decode cX4_documents 0 = .ok (.aload_n 0, 1) := by decide +kernel
theorem dX4_documents_1 : decode cX4_documents 1 = .ok (.iload_n 1, 1) := by decide +kernel
theorem dX4_documents_2 : decode cX4_documents 2 = .ok (.invokevirtual 124, 3) := by decide +kernel
theorem dX4_documents_5 : decode cX4_documents 5 = .ok (.astore_n 2, 1) := by decide +kernel
theorem dX4_documents_6 : decode cX4_documents 6 = .ok (.aload_n 0, 1) := by decide +kernel
theorem dX4_documents_7 : decode cX4_documents 7 = .ok (.iload_n 1, 1) := by decide +kernel
theorem dX4_documents_8 : decode cX4_documents 8 = .ok (.invokevirtual 134, 3) := by decide +kernel
theorem dX4_documents_11 : decode cX4_documents 11 = .ok (.aload_n 2, 1) := by decide +kernel
theorem dX4_documents_12 : decode cX4_documents 12 = .ok (.getfield 131, 3) := by decide +kernel
theorem dX4_documents_15 : decode cX4_documents 15 = .ok (.ifCond .eq 8, 3) := by decide +kernel
theorem dX4_documents_18 : decode cX4_documents 18 = .ok (.bipush 16, 2) := by decide +kernel
theorem dX4_documents_20 : decode cX4_documents 20 = .ok (.goto 4, 3) := by decide +kernel
theorem dX4_documents_23 : decode cX4_documents 23 = .ok (.iconst 0, 1) := by decide +kernel
theorem dX4_documents_24 : decode cX4_documents 24 = .ok (.iadd, 1) := by decide +kernel
theorem dX4_documents_25 : decode cX4_documents 25 = .ok (.istore_n 3, 1) := by decide +kernel
theorem dX4_documents_26 : decode cX4_documents 26 = .ok (.iload_n 3, 1) := by decide +kernel
theorem dX4_documents_27 : decode cX4_documents 27 = .ok (.ifCond .eq 15, 3) := by decide +kernel
theorem dX4_documents_30 : decode cX4_documents 30 = .ok (.aload_n 0, 1) := by decide +kernel
theorem dX4_documents_31 : decode cX4_documents 31 = .ok (.iload_n 1, 1) := by decide +kernel
theorem dX4_documents_32 : decode cX4_documents 32 = .ok (.invokevirtual 143, 3) := by decide +kernel
theorem dX4_documents_35 : decode cX4_documents 35 = .ok (.ifCond .eq 7, 3) := by decide +kernel
theorem dX4_documents_38 : decode cX4_documents 38 = .ok (.iconst 1, 1) := by decide +kernel
theorem dX4_documents_39 : decode cX4_documents 39 = .ok (.goto 4, 3) := by decide +kernel
theorem dX4_documents_42 : decode cX4_documents 42 = .ok (.iconst 0, 1) := by decide +kernel
theorem dX4_documents_43 : decode cX4_documents 43 = .ok (.invokestatic 64, 3) := by decide +kernel
theorem dX4_documents_46 : decode cX4_documents 46 = .ok (.aload_n 2, 1) := by decide +kernel
theorem dX4_documents_47 : decode cX4_documents 47 = .ok (.iconst 1, 1) := by decide +kernel
theorem dX4_documents_48 : decode cX4_documents 48 = .ok (.aload_n 0, 1) := by decide +kernel
theorem dX4_documents_49 : decode cX4_documents 49 = .ok (.getfield 41, 3) := by decide +kernel
theorem dX4_documents_52 : decode cX4_documents 52 = .ok (.invokevirtual 140, 3) := by decide +kernel
theorem dX4_documents_55 : decode cX4_documents 55 = .ok (.iload_n 3, 1) := by decide +kernel
theorem dX4_documents_56 : decode cX4_documents 56 = .ok (.ireturn, 1) := by decide +kernel
def tab_X4_documents : List (Nat × Sem) := [(0, op_al 0 1), (1, op_il 1 2), (2, op_callV 6 sp_X4_vowAt 2 1 5), (5, op_as 2 6), (6, op_al 0 7), (7, op_il 1 8), (8, op_callV 6 sp_X4_hindrances 2 1 11), (11, op_al 2 12), (12, op_gf 5 5 15), (15, op_if (fun x => x = 0) 23 18), (18, op_ic 16 20), (20, op_go 24), (23, op_ic 0 24), (24, op_bin (fun x y => x + y) 25), (25, op_is 3 26), (26, op_il 3 27), (27, op_if (fun x => x = 0) 42 30), (30, op_al 0 31), (31, op_il 1 32), (32, op_callV 6 sp_X4_mayBeJudged 2 1 35), (35, op_if (fun x => x = 0) 42 38), (38, op_ic 1 39), (39, op_go 43), (42, op_ic 0 43), (43, op_call sp_X4_checkPossible 1 1 46), (46, op_al 2 47), (47, op_ic 1 48), (48, op_al 0 49), (49, op_gf 6 7 52), (52, op_callV 5 sp_X3_turn 3 0 55), (55, op_il 3 56), (56, op_iret)]
set_option maxRecDepth 20000 in
theorem tok_X4_documents : ∀ q ∈ tab_X4_documents, Snd RX4 cX4_documents 4 9 4 (some .int) q.1 q.2 := by
  unfold tab_X4_documents
  refine tcons (ok_aload_n dX4_documents_0 rfl rfl) ?_
  refine tcons (ok_iload_n dX4_documents_1 rfl rfl) ?_
  refine tcons (ok_invokevirtual M_X4_vowAt (C := RX4) (T := TX4) (nf := 8) rfl w_506 w_508 w_10 w_20 w_509 ⟨rfl, by decide, by decide, by decide +kernel⟩ (by decide) (by decide) dX4_documents_2 rfl) ?_
  refine tcons (ok_astore_n dX4_documents_5 rfl (by decide) rfl) ?_
  refine tcons (ok_aload_n dX4_documents_6 rfl rfl) ?_
  refine tcons (ok_iload_n dX4_documents_7 rfl rfl) ?_
  refine tcons (ok_invokevirtual M_X4_hindrances (C := RX4) (T := TX4) (nf := 8) rfl w_510 w_512 w_11 w_20 w_513 ⟨rfl, by decide, by decide, by decide +kernel⟩ (by decide) (by decide) dX4_documents_8 rfl) ?_
  refine tcons (ok_aload_n dX4_documents_11 rfl rfl) ?_
  refine tcons (ok_getfield (C := RX3) (T := TX3) (n := 8) rfl in_X3 (by decide) w_477 dX4_documents_12 rfl) ?_
  refine tcons (ok_if_eq dX4_documents_15 rfl rfl) ?_
  refine tcons (ok_bipush dX4_documents_18 rfl rfl) ?_
  refine tcons (ok_goto dX4_documents_20 rfl) ?_
  refine tcons (ok_iconst dX4_documents_23 rfl rfl) ?_
  refine tcons (ok_iadd dX4_documents_24 rfl) ?_
  refine tcons (ok_istore_n dX4_documents_25 rfl (by decide) rfl) ?_
  refine tcons (ok_iload_n dX4_documents_26 rfl rfl) ?_
  refine tcons (ok_if_eq dX4_documents_27 rfl rfl) ?_
  refine tcons (ok_aload_n dX4_documents_30 rfl rfl) ?_
  refine tcons (ok_iload_n dX4_documents_31 rfl rfl) ?_
  refine tcons (ok_invokevirtual M_X4_mayBeJudged (C := RX4) (T := TX4) (nf := 8) rfl w_542 w_544 w_14 w_20 w_545 ⟨rfl, by decide, by decide, by decide +kernel⟩ (by decide) (by decide) dX4_documents_32 rfl) ?_
  refine tcons (ok_if_eq dX4_documents_35 rfl rfl) ?_
  refine tcons (ok_iconst dX4_documents_38 rfl rfl) ?_
  refine tcons (ok_goto dX4_documents_39 rfl) ?_
  refine tcons (ok_iconst dX4_documents_42 rfl rfl) ?_
  refine tcons (ok_invokestatic M_X4_checkPossible w_240 w_241 w_20 w_242 ⟨by decide, by decide, by decide +kernel⟩ (by decide) (by decide) dX4_documents_43 rfl) ?_
  refine tcons (ok_aload_n dX4_documents_46 rfl rfl) ?_
  refine tcons (ok_iconst dX4_documents_47 rfl rfl) ?_
  refine tcons (ok_aload_n dX4_documents_48 rfl rfl) ?_
  refine tcons (ok_getfield (C := RX4) (T := TX4) (n := 8) rfl in_X4 (by decide) w_105 dX4_documents_49 rfl) ?_
  refine tcons (ok_invokevirtual M_X3_turn (C := RX3) (T := TX3) (nf := 8) rfl w_406 w_407 w_408 w_38 w_409 ⟨rfl, by decide, by decide, by decide +kernel⟩ (by decide) (by decide) dX4_documents_52 rfl) ?_
  refine tcons (ok_iload_n dX4_documents_55 rfl rfl) ?_
  refine tcons (ok_ireturn rfl dX4_documents_56) ?_
  exact fun _ h => nomatch h
def sp_X4_documents : Spc := fun av s N X => match av with
  | [.inl (.inr (1, 0)), .inl (.inl v)] => CI s ∧ chk (iC s 1 v) 1 s X (chk (¬ dcC s (cl v) = 0 ∧ mbj s v) 3 s X (N (some (aI (dcC s (cl v)))) (stS (stS s 13 (cl v) 6 1) 13 (cl v) 7 (s.2.1 1 0 7))))
  | _ => False
set_option maxRecDepth 20000 in
set_option maxHeartbeats 2000000 in
theorem M_X4_documents : AMet yX4_documents cX4_documents 4 (some .int) 9 4 sp_X4_documents := by
  refine AMet.mk (own := RX4) (by decide) rfl [0, 1, 2, 3] rfl tok_X4_documents 200 ?_
  intro av s0 N X h
  unfold sp_X4_documents at h
  split at h
  rotate_left
  · exact h.elim
  refine ⟨fun _ => none, ?_, fun pc P hP => nomatch hP⟩
  repeat' (first | apply And.intro | (intro q; exact absurd q (by decide)) | intro _)
  all_goals first | decide | (exact (rfl : (0 : Nat) = 0)) | (exact Nat.le_of_ble_eq_true rfl) | (exact h.1) | (exact iC_v h.1 (by assumption)) | (exact absurd (by assumption) (by assumption : ¬ iC s0 1 _)) | (simp_all [-Int32.not_lt, -Int32.not_le, chk, dcC, iteP]; done) | (simp_all [-Int32.not_lt, -Int32.not_le, ← Int32.not_le, chk, dcC, iteP]; done) | (simp_all [chk, dcC, iteP]; done)

