/-! VowCourt's own: bonds, courts, hindrances -/
theorem w_10 : (.selects "VowCourt" ⟨"VowCourt", "vowAt", "(I)LVowCourt$Vow;"⟩ ⟨"VowCourt", "vowAt", "(I)LVowCourt$Vow;"⟩ : Cond) ∈ TB := TB_mem (List.mem_of_getElem? (i := 10) (by decide +kernel)) rfl
theorem w_12 : (.selects "VowCourt" ⟨"VowCourt", "lowestBond", "(III)I"⟩ ⟨"VowCourt", "lowestBond", "(III)I"⟩ : Cond) ∈ TB := TB_mem (List.mem_of_getElem? (i := 12) (by decide +kernel)) rfl
theorem w_13 : (.selects "VowCourt" ⟨"VowCourt", "isInCourt", "(I)Z"⟩ ⟨"VowCourt", "isInCourt", "(I)Z"⟩ : Cond) ∈ TB := TB_mem (List.mem_of_getElem? (i := 13) (by decide +kernel)) rfl
theorem w_38 : (.initialized "VowCourt$Vow" : Cond) ∈ TB := TB_mem (List.mem_of_getElem? (i := 38) (by decide +kernel)) rfl
theorem w_402 : (.methodLink "VowCourt" 277 ⟨"VowCourt$Vow", "isOf", "(I)Z"⟩ : Cond) ∈ TB := TB_mem (List.mem_of_getElem? (i := 402) (by decide +kernel)) rfl
theorem w_403 : (.instanceMethod ⟨"VowCourt$Vow", "isOf", "(I)Z"⟩ : Cond) ∈ TB := TB_mem (List.mem_of_getElem? (i := 403) (by decide +kernel)) rfl
theorem w_404 : (.selects "VowCourt$Vow" ⟨"VowCourt$Vow", "isOf", "(I)Z"⟩ ⟨"VowCourt$Vow", "isOf", "(I)Z"⟩ : Cond) ∈ TB := TB_mem (List.mem_of_getElem? (i := 404) (by decide +kernel)) rfl
theorem w_405 : (.code yX3_isOf cX3_isOf 2 (some .boolean) : Cond) ∈ TB := TB_mem (List.mem_of_getElem? (i := 405) (by decide +kernel)) rfl
theorem w_473 : (.fieldLink "VowCourt" 203 "VowCourt$Vow" "day" "I" : Cond) ∈ TB := TB_mem (List.mem_of_getElem? (i := 473) (by decide +kernel)) rfl
theorem w_475 : (.fieldLink "VowCourt" 274 "VowCourt$Vow" "lasting" "I" : Cond) ∈ TB := TB_mem (List.mem_of_getElem? (i := 475) (by decide +kernel)) rfl
theorem w_479 : (.fieldLink "VowCourt" 128 "VowCourt$Vow" "status" "I" : Cond) ∈ TB := TB_mem (List.mem_of_getElem? (i := 479) (by decide +kernel)) rfl
theorem w_506 : (.methodLink "VowCourt" 124 ⟨"VowCourt", "vowAt", "(I)LVowCourt$Vow;"⟩ : Cond) ∈ TB := TB_mem (List.mem_of_getElem? (i := 506) (by decide +kernel)) rfl
theorem w_508 : (.instanceMethod ⟨"VowCourt", "vowAt", "(I)LVowCourt$Vow;"⟩ : Cond) ∈ TB := TB_mem (List.mem_of_getElem? (i := 508) (by decide +kernel)) rfl
theorem w_509 : (.code yX4_vowAt cX4_vowAt 2 (some (.object "VowCourt$Vow")) : Cond) ∈ TB := TB_mem (List.mem_of_getElem? (i := 509) (by decide +kernel)) rfl
theorem w_514 : (.methodLink "VowCourt" 215 ⟨"VowCourt", "lowestBond", "(III)I"⟩ : Cond) ∈ TB := TB_mem (List.mem_of_getElem? (i := 514) (by decide +kernel)) rfl
theorem w_516 : (.instanceMethod ⟨"VowCourt", "lowestBond", "(III)I"⟩ : Cond) ∈ TB := TB_mem (List.mem_of_getElem? (i := 516) (by decide +kernel)) rfl
theorem w_517 : (.code yX4_lowestBond cX4_lowestBond 6 (some .int) : Cond) ∈ TB := TB_mem (List.mem_of_getElem? (i := 517) (by decide +kernel)) rfl
theorem w_518 : (.methodLink "VowCourt" 280 ⟨"VowCourt$Vow", "bindsOn", "(I)Z"⟩ : Cond) ∈ TB := TB_mem (List.mem_of_getElem? (i := 518) (by decide +kernel)) rfl
theorem w_519 : (.instanceMethod ⟨"VowCourt$Vow", "bindsOn", "(I)Z"⟩ : Cond) ∈ TB := TB_mem (List.mem_of_getElem? (i := 519) (by decide +kernel)) rfl
theorem w_520 : (.selects "VowCourt$Vow" ⟨"VowCourt$Vow", "bindsOn", "(I)Z"⟩ ⟨"VowCourt$Vow", "bindsOn", "(I)Z"⟩ : Cond) ∈ TB := TB_mem (List.mem_of_getElem? (i := 520) (by decide +kernel)) rfl
theorem w_521 : (.code yX3_bindsOn cX3_bindsOn 2 (some .boolean) : Cond) ∈ TB := TB_mem (List.mem_of_getElem? (i := 521) (by decide +kernel)) rfl
theorem w_529 : (.methodLink "VowCourt" 137 ⟨"VowCourt", "isInCourt", "(I)Z"⟩ : Cond) ∈ TB := TB_mem (List.mem_of_getElem? (i := 529) (by decide +kernel)) rfl
theorem w_531 : (.instanceMethod ⟨"VowCourt", "isInCourt", "(I)Z"⟩ : Cond) ∈ TB := TB_mem (List.mem_of_getElem? (i := 531) (by decide +kernel)) rfl
theorem w_532 : (.code yX4_isInCourt cX4_isInCourt 4 (some .boolean) : Cond) ∈ TB := TB_mem (List.mem_of_getElem? (i := 532) (by decide +kernel)) rfl
theorem w_534 : (.methodLink "VowCourt" 283 ⟨"VowCourt$Cause", "isOver", "()Z"⟩ : Cond) ∈ TB := TB_mem (List.mem_of_getElem? (i := 534) (by decide +kernel)) rfl
theorem w_535 : (.instanceMethod ⟨"VowCourt$Cause", "isOver", "()Z"⟩ : Cond) ∈ TB := TB_mem (List.mem_of_getElem? (i := 535) (by decide +kernel)) rfl
theorem w_536 : (.selects "VowCourt$Cause" ⟨"VowCourt$Cause", "isOver", "()Z"⟩ ⟨"VowCourt$Cause", "isOver", "()Z"⟩ : Cond) ∈ TB := TB_mem (List.mem_of_getElem? (i := 536) (by decide +kernel)) rfl
theorem w_537 : (.code yX0_isOver cX0_isOver 1 (some .boolean) : Cond) ∈ TB := TB_mem (List.mem_of_getElem? (i := 537) (by decide +kernel)) rfl
theorem w_568 : (.fieldLink "VowCourt" 187 "VowCourt$Cause" "vowNumber" "I" : Cond) ∈ TB := TB_mem (List.mem_of_getElem? (i := 568) (by decide +kernel)) rfl
def boC (s : Sg) (i : Nat) (p t : Int32) : Prop := (p = s.2.1 13 i 0 ∨ p = s.2.1 13 i 1) ∧ ¬ t < s.2.1 13 i 3 ∧ ¬ s.2.1 13 i 6 = 1 ∧ (s.2.1 13 i 6 = 0 ∨ t < s.2.1 13 i 7)
noncomputable def lbC (s : Sg) (p t : Int32) : Nat → Nat → Int32
  | 0, _ => -1
  | f + 1, i => iteP (boC s i p t) (nI i) (lbC s p t f (i + 1))
theorem dX4_lowestBond_0 : decode cX4_lowestBond 0 = .ok (.iconst 0, 1) := by decide +kernel
theorem dX4_lowestBond_1 : decode cX4_lowestBond 1 = .ok (.istore 4, 2) := by decide +kernel
theorem dX4_lowestBond_3 : decode cX4_lowestBond 3 = .ok (.iload 4, 2) := by decide +kernel
theorem dX4_lowestBond_5 : decode cX4_lowestBond 5 = .ok (.iload_n 3, 1) := by decide +kernel
theorem dX4_lowestBond_6 : decode cX4_lowestBond 6 = .ok (.if_icmp .ge 56, 3) := by decide +kernel
theorem dX4_lowestBond_9 : decode cX4_lowestBond 9 = .ok (.iload 4, 2) := by decide +kernel
theorem dX4_lowestBond_11 : decode cX4_lowestBond 11 = .ok (.aload_n 0, 1) := by decide +kernel
theorem dX4_lowestBond_12 : decode cX4_lowestBond 12 = .ok (.getfield 16, 3) := by decide +kernel
theorem dX4_lowestBond_15 : decode cX4_lowestBond 15 = .ok (.invokevirtual 60, 3) := by decide +kernel
theorem dX4_lowestBond_18 : decode cX4_lowestBond 18 = .ok (.if_icmp .ge 44, 3) := by decide +kernel
theorem dX4_lowestBond_21 : decode cX4_lowestBond 21 = .ok (.aload_n 0, 1) := by decide +kernel
theorem dX4_lowestBond_22 : decode cX4_lowestBond 22 = .ok (.getfield 16, 3) := by decide +kernel
theorem dX4_lowestBond_25 : decode cX4_lowestBond 25 = .ok (.iload 4, 2) := by decide +kernel
theorem dX4_lowestBond_27 : decode cX4_lowestBond 27 = .ok (.invokevirtual 253, 3) := by decide +kernel
theorem dX4_lowestBond_30 : decode cX4_lowestBond 30 = .ok (.checkcast 119, 3) := by decide +kernel
theorem dX4_lowestBond_33 : decode cX4_lowestBond 33 = .ok (.astore 5, 2) := by decide +kernel
theorem dX4_lowestBond_35 : decode cX4_lowestBond 35 = .ok (.aload 5, 2) := by decide +kernel
theorem dX4_lowestBond_37 : decode cX4_lowestBond 37 = .ok (.iload_n 1, 1) := by decide +kernel
theorem dX4_lowestBond_38 : decode cX4_lowestBond 38 = .ok (.invokevirtual 277, 3) := by decide +kernel
theorem dX4_lowestBond_41 : decode cX4_lowestBond 41 = .ok (.ifCond .eq 15, 3) := by decide +kernel
theorem dX4_lowestBond_44 : decode cX4_lowestBond 44 = .ok (.aload 5, 2) := by decide +kernel
theorem dX4_lowestBond_46 : decode cX4_lowestBond 46 = .ok (.iload_n 2, 1) := by decide +kernel
theorem dX4_lowestBond_47 : decode cX4_lowestBond 47 = .ok (.invokevirtual 280, 3) := by decide +kernel
theorem dX4_lowestBond_50 : decode cX4_lowestBond 50 = .ok (.ifCond .eq 6, 3) := by decide +kernel
theorem dX4_lowestBond_53 : decode cX4_lowestBond 53 = .ok (.iload 4, 2) := by decide +kernel
theorem dX4_lowestBond_55 : decode cX4_lowestBond 55 = .ok (.ireturn, 1) := by decide +kernel
theorem dX4_lowestBond_56 : decode cX4_lowestBond 56 = .ok (.iinc 4 1, 3) := by decide +kernel
theorem dX4_lowestBond_59 : decode cX4_lowestBond 59 = .ok (.goto (-56), 3) := by decide +kernel
theorem dX4_lowestBond_62 : decode cX4_lowestBond 62 = .ok (.iconst (-1), 1) := by decide +kernel
theorem dX4_lowestBond_63 : decode cX4_lowestBond 63 = .ok (.ireturn, 1) := by decide +kernel
def tab_X4_lowestBond : List (Nat × Sem) := [(0, op_ic 0 1), (1, op_is 4 3), (3, op_il 4 5), (5, op_il 3 6), (6, op_cmp (fun x y => y ≤ x) 62 9), (9, op_il 4 11), (11, op_al 0 12), (12, op_gf 6 1 15), (15, op_callV 1 sp_Jx4a65c_size_8abf5 1 0 18), (18, op_cmp (fun x y => y ≤ x) 62 21), (21, op_al 0 22), (22, op_gf 6 1 25), (25, op_il 4 27), (27, op_callV 1 sp_Jx4a65c_get_915e3 2 0 30), (30, op_cc 5 33), (33, op_as 5 35), (35, op_al 5 37), (37, op_il 1 38), (38, op_callV 5 sp_X3_isOf 2 0 41), (41, op_if (fun x => x = 0) 56 44), (44, op_al 5 46), (46, op_il 2 47), (47, op_callV 5 sp_X3_bindsOn 2 0 50), (50, op_if (fun x => x = 0) 56 53), (53, op_il 4 55), (55, op_iret), (56, op_inc 4 1 59), (59, op_go 3), (62, op_ic (-1) 63), (63, op_iret)]
set_option maxRecDepth 20000 in
theorem tok_X4_lowestBond : ∀ q ∈ tab_X4_lowestBond, Snd RX4 cX4_lowestBond 6 4 0 (some .int) q.1 q.2 := by
  unfold tab_X4_lowestBond
  refine tcons (ok_iconst dX4_lowestBond_0 rfl rfl) ?_
  refine tcons (ok_istore dX4_lowestBond_1 (by decide) rfl) ?_
  refine tcons (ok_iload dX4_lowestBond_3 rfl) ?_
  refine tcons (ok_iload_n dX4_lowestBond_5 rfl rfl) ?_
  refine tcons (ok_icmp_ge dX4_lowestBond_6 rfl rfl) ?_
  refine tcons (ok_iload dX4_lowestBond_9 rfl) ?_
  refine tcons (ok_aload_n dX4_lowestBond_11 rfl rfl) ?_
  refine tcons (ok_getfield (C := RX4) (T := TX4) (n := 8) rfl in_X4 (by decide) w_99 dX4_lowestBond_12 rfl) ?_
  refine tcons (ok_invokevirtual M_Jx4a65c_size_8abf5 (C := RJx4a65c) (T := TJx4a65c) (nf := 3) rfl w_142 w_143 w_144 w_23 w_145 ⟨rfl, by decide, by decide, by decide +kernel⟩ (by decide) (by decide) dX4_lowestBond_15 rfl) ?_
  refine tcons (ok_icmp_ge dX4_lowestBond_18 rfl rfl) ?_
  refine tcons (ok_aload_n dX4_lowestBond_21 rfl rfl) ?_
  refine tcons (ok_getfield (C := RX4) (T := TX4) (n := 8) rfl in_X4 (by decide) w_99 dX4_lowestBond_22 rfl) ?_
  refine tcons (ok_iload dX4_lowestBond_25 rfl) ?_
  refine tcons (ok_invokevirtual M_Jx4a65c_get_915e3 (C := RJx4a65c) (T := TJx4a65c) (nf := 3) rfl w_364 w_365 w_366 w_23 w_367 ⟨rfl, by decide, by decide, by decide +kernel⟩ (by decide) (by decide) dX4_lowestBond_27 rfl) ?_
  refine tcons (ok_checkcast (C := RX3) (T := TX3) (n := 8) rfl w_401 dX4_lowestBond_30 rfl) ?_
  refine tcons (ok_astore dX4_lowestBond_33 (by decide) rfl) ?_
  refine tcons (ok_aload dX4_lowestBond_35 rfl) ?_
  refine tcons (ok_iload_n dX4_lowestBond_37 rfl rfl) ?_
  refine tcons (ok_invokevirtual M_X3_isOf (C := RX3) (T := TX3) (nf := 8) rfl w_402 w_403 w_404 w_38 w_405 ⟨rfl, by decide, by decide, by decide +kernel⟩ (by decide) (by decide) dX4_lowestBond_38 rfl) ?_
  refine tcons (ok_if_eq dX4_lowestBond_41 rfl rfl) ?_
  refine tcons (ok_aload dX4_lowestBond_44 rfl) ?_
  refine tcons (ok_iload_n dX4_lowestBond_46 rfl rfl) ?_
  refine tcons (ok_invokevirtual M_X3_bindsOn (C := RX3) (T := TX3) (nf := 8) rfl w_518 w_519 w_520 w_38 w_521 ⟨rfl, by decide, by decide, by decide +kernel⟩ (by decide) (by decide) dX4_lowestBond_47 rfl) ?_
  refine tcons (ok_if_eq dX4_lowestBond_50 rfl rfl) ?_
  refine tcons (ok_iload dX4_lowestBond_53 rfl) ?_
  refine tcons (ok_ireturn rfl dX4_lowestBond_55) ?_
  refine tcons (ok_iinc dX4_lowestBond_56 rfl (by decide) rfl) ?_
  refine tcons (ok_goto dX4_lowestBond_59 rfl) ?_
  refine tcons (ok_iconst dX4_lowestBond_62 rfl rfl) ?_
  refine tcons (ok_ireturn rfl dX4_lowestBond_63) ?_
  exact fun _ h => nomatch h
def sp_X4_lowestBond : Spc := fun av s N X => match av with
  | [.inl (.inr (1, 0)), .inl (.inl p), .inl (.inl t), .inl (.inl n)] => CI s ∧ ∃ m, n = nI m ∧ m ≤ s.1 1 ∧ N (some (aI (lbC s p t m 0))) s
  | _ => False
set_option maxRecDepth 20000 in
set_option maxHeartbeats 2000000 in
theorem M_X4_lowestBond : AMet yX4_lowestBond cX4_lowestBond 6 (some .int) 4 0 sp_X4_lowestBond := by
  refine AMet.mc (own := RX4) (by decide) rfl [0, 1, 2, 3, 4, 5] rfl tok_X4_lowestBond 200 ?_
  intro av s0 N X h
  unfold sp_X4_lowestBond at h
  split at h
  rotate_left
  · exact h.elim
  rename_i p t n
  obtain ⟨hC, m, rfl, hm, h⟩ := h
  have hlt := Gd_lt (CI_1 hC)
  have g1 := CI_1 hC
  obtain ⟨R, hR⟩ : ∃ z, z = lbC s0 p t m 0 := ⟨_, rfl⟩
  rw [← hR] at h
  refine ⟨[(3, fun w u L st s => ∃ k, k ≤ m ∧ w = m - k ∧ u = 0 ∧ L = [(0, .inr (1, 0)), (1, .inl p), (2, .inl t), (3, .inl (nI m)), (4, .inl (nI k))] ∧ st = [] ∧ s = s0 ∧ lbC s0 p t (m - k) k = R)], ?_, ac ?_ an⟩
  · repeat' (first | apply And.intro | (intro q; exact absurd q (by decide)) | intro _)
    all_goals first | decide | (exact (rfl : (0 : Nat) = 0)) | (exact Nat.le_of_ble_eq_true rfl) | (exact ⟨m, 5, trivial, 0, Nat.zero_le _, rfl, rfl, rfl, rfl, rfl, hR.symm⟩)
  · rintro w u L st s ⟨k, hk, rfl, rfl, rfl, rfl, rfl, he⟩
    by_cases hkm : k < m
    · have hle : ¬ nI m ≤ nI k := fun q => by have := (nIge (N := 200) (by omega) (by omega) (by decide)).mp q; omega
      have hle2 : ¬ nI (s.1 1) ≤ nI k := fun q => by have := (nIge (N := 200) (by omega) (by omega) (by decide)).mp q; omega
      have h0 : (0 : Int32) ≤ nI k := Int32.not_lt.mp (nI_pos (by omega))
      have h1 : nI k < nI (s.1 1) := nI_lt (by omega) (by omega)
      have ck : cl (nI k) = k := nI_clamp (by omega)
      have hv : Lv s 13 (cl (nI k)) := by rw [ck]; exact Nat.lt_of_lt_of_le (Nat.lt_of_lt_of_le hkm hm) (Nat.le_add_right _ _)
      have hbo : boC s (cl (nI k)) p t = boC s k p t := by rw [ck]
      rw [show m - k = (m - (k + 1)) + 1 by omega, lbC] at he
      by_cases hb : boC s k p t
      · rw [iteP_t hb] at he
        rw [← he] at h
        rw [← hbo] at hb
        clear he hR hbo
        repeat' (first | apply And.intro | (intro q; exact absurd q (by decide)) | (intro q; exact absurd q hle) | (intro q; exact absurd q hle2) | (intro q; exact absurd hb.1 q) | (intro q; exact absurd hb.2 q) | intro _)
        all_goals first | (with_reducible exact g1) | (with_reducible exact h0) | (with_reducible exact h1) | (exact (rfl : (0 : Nat) = 0)) | (exact Nat.le_of_ble_eq_true rfl) | (exact hv) | exact h
      · rw [iteP_f hb] at he
        rw [← hbo] at hb
        clear hR hbo
        repeat' (first | apply And.intro | (intro q; exact absurd q (by decide)) | (intro q; exact absurd q hle) | (intro q; exact absurd q hle2) | intro _)
        all_goals first | (with_reducible exact g1) | (with_reducible exact h0) | (with_reducible exact h1) | (exact (rfl : (0 : Nat) = 0)) | (exact Nat.le_of_ble_eq_true rfl) | (exact hv) | (exact absurd (⟨by assumption, by assumption⟩ : boC s (cl (nI k)) p t) hb) |
          (exact ⟨m - (k + 1), 5, by omega, k + 1, by omega, rfl, rfl, by rw [← nIs]; rfl, rfl, rfl, he⟩)
    · obtain rfl : k = m := by omega
      have hle : nI k ≤ nI k := nI_le (Nat.le_refl _) (by omega)
      rw [Nat.sub_self, lbC] at he
      rw [← he] at h
      repeat' (first | apply And.intro | (intro q; exact absurd q (by decide)) | (intro q; exact absurd hle q) | intro _)
      all_goals first | decide | (exact (rfl : (0 : Nat) = 0)) | (exact Nat.le_of_ble_eq_true rfl) | exact h
def hnb (s : Sg) (v : Nat) : Prop := ¬ lbC s (s.2.1 13 v 0) (s.2.1 13 v 3) v 0 = -1 ∨ ¬ lbC s (s.2.1 13 v 1) (s.2.1 13 v 3) v 0 = -1
noncomputable def hnC (s : Sg) (v : Nat) : Int32 := s.2.1 13 v 4 + iteP (hnb s v) 4 0
theorem dX4_hindrances_0 : decode cX4_hindrances 0 = .ok (.aload_n 0, 1) := by decide +kernel
theorem dX4_hindrances_1 : decode cX4_hindrances 1 = .ok (.iload_n 1, 1) := by decide +kernel
theorem dX4_hindrances_2 : decode cX4_hindrances 2 = .ok (.invokevirtual 124, 3) := by decide +kernel
theorem dX4_hindrances_5 : decode cX4_hindrances 5 = .ok (.astore_n 2, 1) := by decide +kernel
theorem dX4_hindrances_6 : decode cX4_hindrances 6 = .ok (.aload_n 0, 1) := by decide +kernel
theorem dX4_hindrances_7 : decode cX4_hindrances 7 = .ok (.aload_n 2, 1) := by decide +kernel
theorem dX4_hindrances_8 : decode cX4_hindrances 8 = .ok (.getfield 268, 3) := by decide +kernel
theorem dX4_hindrances_11 : decode cX4_hindrances 11 = .ok (.aload_n 2, 1) := by decide +kernel
theorem dX4_hindrances_12 : decode cX4_hindrances 12 = .ok (.getfield 203, 3) := by decide +kernel
theorem dX4_hindrances_15 : decode cX4_hindrances 15 = .ok (.iload_n 1, 1) := by decide +kernel
theorem dX4_hindrances_16 : decode cX4_hindrances 16 = .ok (.invokevirtual 215, 3) := by decide +kernel
theorem dX4_hindrances_19 : decode cX4_hindrances 19 = .ok (.iconst (-1), 1) := by decide +kernel
theorem dX4_hindrances_20 : decode cX4_hindrances 20 = .ok (.if_icmp .ne 20, 3) := by decide +kernel
theorem dX4_hindrances_23 : decode cX4_hindrances 23 = .ok (.aload_n 0, 1) := by decide +kernel
theorem dX4_hindrances_24 : decode cX4_hindrances 24 = .ok (.aload_n 2, 1) := by decide +kernel
theorem dX4_hindrances_25 : decode cX4_hindrances 25 = .ok (.getfield 271, 3) := by decide +kernel
theorem dX4_hindrances_28 : decode cX4_hindrances 28 = .ok (.aload_n 2, 1) := by decide +kernel
theorem dX4_hindrances_29 : decode cX4_hindrances 29 = .ok (.getfield 203, 3) := by decide +kernel
theorem dX4_hindrances_32 : decode cX4_hindrances 32 = .ok (.iload_n 1, 1) := by decide +kernel
theorem dX4_hindrances_33 : decode cX4_hindrances 33 = .ok (.invokevirtual 215, 3) := by decide +kernel
theorem dX4_hindrances_36 : decode cX4_hindrances 36 = .ok (.iconst (-1), 1) := by decide +kernel
theorem dX4_hindrances_37 : decode cX4_hindrances 37 = .ok (.if_icmp .eq 7, 3) := by decide +kernel
theorem dX4_hindrances_40 : decode cX4_hindrances 40 = .ok (.iconst 1, 1) := by decide +kernel
theorem dX4_hindrances_41 : decode cX4_hindrances 41 = .ok (.goto 4, 3) := by decide +kernel
theorem dX4_hindrances_44 : decode cX4_hindrances 44 = .ok (.iconst 0, 1) := by decide +kernel
theorem dX4_hindrances_45 : decode cX4_hindrances 45 = .ok (.istore_n 3, 1) := by decide +kernel
theorem dX4_hindrances_46 : decode cX4_hindrances 46 = .ok (.aload_n 2, 1) := by decide +kernel
theorem dX4_hindrances_47 : decode cX4_hindrances 47 = .ok (.getfield 274, 3) := by decide +kernel
theorem dX4_hindrances_50 : decode cX4_hindrances 50 = .ok (.iload_n 3, 1) := by decide +kernel
theorem dX4_hindrances_51 : decode cX4_hindrances 51 = .ok (.ifCond .eq 7, 3) := by decide +kernel
theorem dX4_hindrances_54 : decode cX4_hindrances 54 = .ok (.iconst 4, 1) := by decide +kernel
theorem dX4_hindrances_55 : decode cX4_hindrances 55 = .ok (.goto 4, 3) := by decide +kernel
theorem dX4_hindrances_58 : decode cX4_hindrances 58 = .ok (.iconst 0, 1) := by decide +kernel
theorem dX4_hindrances_59 : decode cX4_hindrances 59 = .ok (.iadd, 1) := by decide +kernel
theorem dX4_hindrances_60 : decode cX4_hindrances 60 = .ok (.ireturn, 1) := by decide +kernel
def tab_X4_hindrances : List (Nat × Sem) := [(0, op_al 0 1), (1, op_il 1 2), (2, op_callV 6 sp_X4_vowAt 2 1 5), (5, op_as 2 6), (6, op_al 0 7), (7, op_al 2 8), (8, op_gf 5 0 11), (11, op_al 2 12), (12, op_gf 5 3 15), (15, op_il 1 16), (16, op_callV 6 sp_X4_lowestBond 4 0 19), (19, op_ic (-1) 20), (20, op_cmp (fun x y => ¬ x = y) 40 23), (23, op_al 0 24), (24, op_al 2 25), (25, op_gf 5 1 28), (28, op_al 2 29), (29, op_gf 5 3 32), (32, op_il 1 33), (33, op_callV 6 sp_X4_lowestBond 4 0 36), (36, op_ic (-1) 37), (37, op_cmp (fun x y => x = y) 44 40), (40, op_ic 1 41), (41, op_go 45), (44, op_ic 0 45), (45, op_is 3 46), (46, op_al 2 47), (47, op_gf 5 4 50), (50, op_il 3 51), (51, op_if (fun x => x = 0) 58 54), (54, op_ic 4 55), (55, op_go 59), (58, op_ic 0 59), (59, op_bin (fun x y => x + y) 60), (60, op_iret)]
set_option maxRecDepth 20000 in
theorem tok_X4_hindrances : ∀ q ∈ tab_X4_hindrances, Snd RX4 cX4_hindrances 4 8 1 (some .int) q.1 q.2 := by
  unfold tab_X4_hindrances
  refine tcons (ok_aload_n dX4_hindrances_0 rfl rfl) ?_
  refine tcons (ok_iload_n dX4_hindrances_1 rfl rfl) ?_
  refine tcons (ok_invokevirtual M_X4_vowAt (C := RX4) (T := TX4) (nf := 8) rfl w_506 w_508 w_10 w_20 w_509 ⟨rfl, by decide, by decide, by decide +kernel⟩ (by decide) (by decide) dX4_hindrances_2 rfl) ?_
  refine tcons (ok_astore_n dX4_hindrances_5 rfl (by decide) rfl) ?_
  refine tcons (ok_aload_n dX4_hindrances_6 rfl rfl) ?_
  refine tcons (ok_aload_n dX4_hindrances_7 rfl rfl) ?_
  refine tcons (ok_getfield (C := RX3) (T := TX3) (n := 8) rfl in_X3 (by decide) w_467 dX4_hindrances_8 rfl) ?_
  refine tcons (ok_aload_n dX4_hindrances_11 rfl rfl) ?_
  refine tcons (ok_getfield (C := RX3) (T := TX3) (n := 8) rfl in_X3 (by decide) w_473 dX4_hindrances_12 rfl) ?_
  refine tcons (ok_iload_n dX4_hindrances_15 rfl rfl) ?_
  refine tcons (ok_invokevirtual M_X4_lowestBond (C := RX4) (T := TX4) (nf := 8) rfl w_514 w_516 w_12 w_20 w_517 ⟨rfl, by decide, by decide, by decide +kernel⟩ (by decide) (by decide) dX4_hindrances_16 rfl) ?_
  refine tcons (ok_iconst dX4_hindrances_19 rfl rfl) ?_
  refine tcons (ok_icmp_ne dX4_hindrances_20 rfl rfl) ?_
  refine tcons (ok_aload_n dX4_hindrances_23 rfl rfl) ?_
  refine tcons (ok_aload_n dX4_hindrances_24 rfl rfl) ?_
  refine tcons (ok_getfield (C := RX3) (T := TX3) (n := 8) rfl in_X3 (by decide) w_469 dX4_hindrances_25 rfl) ?_
  refine tcons (ok_aload_n dX4_hindrances_28 rfl rfl) ?_
  refine tcons (ok_getfield (C := RX3) (T := TX3) (n := 8) rfl in_X3 (by decide) w_473 dX4_hindrances_29 rfl) ?_
  refine tcons (ok_iload_n dX4_hindrances_32 rfl rfl) ?_
  refine tcons (ok_invokevirtual M_X4_lowestBond (C := RX4) (T := TX4) (nf := 8) rfl w_514 w_516 w_12 w_20 w_517 ⟨rfl, by decide, by decide, by decide +kernel⟩ (by decide) (by decide) dX4_hindrances_33 rfl) ?_
  refine tcons (ok_iconst dX4_hindrances_36 rfl rfl) ?_
  refine tcons (ok_icmp_eq dX4_hindrances_37 rfl rfl) ?_
  refine tcons (ok_iconst dX4_hindrances_40 rfl rfl) ?_
  refine tcons (ok_goto dX4_hindrances_41 rfl) ?_
  refine tcons (ok_iconst dX4_hindrances_44 rfl rfl) ?_
  refine tcons (ok_istore_n dX4_hindrances_45 rfl (by decide) rfl) ?_
  refine tcons (ok_aload_n dX4_hindrances_46 rfl rfl) ?_
  refine tcons (ok_getfield (C := RX3) (T := TX3) (n := 8) rfl in_X3 (by decide) w_475 dX4_hindrances_47 rfl) ?_
  refine tcons (ok_iload_n dX4_hindrances_50 rfl rfl) ?_
  refine tcons (ok_if_eq dX4_hindrances_51 rfl rfl) ?_
  refine tcons (ok_iconst dX4_hindrances_54 rfl rfl) ?_
  refine tcons (ok_goto dX4_hindrances_55 rfl) ?_
  refine tcons (ok_iconst dX4_hindrances_58 rfl rfl) ?_
  refine tcons (ok_iadd dX4_hindrances_59 rfl) ?_
  refine tcons (ok_ireturn rfl dX4_hindrances_60) ?_
  exact fun _ h => nomatch h
def sp_X4_hindrances : Spc := fun av s N X => match av with
  | [.inl (.inr (1, 0)), .inl (.inl v)] => CI s ∧ (¬ iC s 1 v → X 1 s) ∧ (iC s 1 v → N (some (aI (hnC s (cl v)))) s)
  | _ => False
set_option maxRecDepth 20000 in
set_option maxHeartbeats 2000000 in
theorem M_X4_hindrances : AMet yX4_hindrances cX4_hindrances 4 (some .int) 8 1 sp_X4_hindrances := by
  refine AMet.mc (own := RX4) (by decide) rfl [0, 1, 2, 3] rfl tok_X4_hindrances 200 ?_
  intro av s0 N X h
  unfold sp_X4_hindrances at h
  split at h
  rotate_left
  · exact h.elim
  rename_i v
  obtain ⟨hC, hX, h⟩ := h
  by_cases hv : iC s0 1 v
  · have hlt := Gd_lt (CI_1 hC)
    obtain ⟨i, hi, rfl⟩ := inC_nI (iC0 hv) (iC1 hv) (by omega)
    have ci : cl (nI i) = i := nI_clamp (by omega)
    have hv2 := iC_v hC hv
    have h := h hv
    unfold hnC at h
    refine ⟨[(45, fun w u L st s => ∃ x : Int32, w = 0 ∧ u = 1 ∧ L = [(0, .inr (1, 0)), (1, .inl (nI i)), (2, .inr (13, cl (nI i)))] ∧ st = [aI x] ∧ s = s0 ∧ ((x = 1 ∧ hnb s0 (cl (nI i))) ∨ (x = 0 ∧ ¬ hnb s0 (cl (nI i)))))], ?_, ac ?_ an⟩
    · repeat' (first | apply And.intro | (intro q; exact absurd q (by decide)) | (intro q; exact absurd hv q) | intro _)
      all_goals first | (with_reducible exact hC) | decide | (exact (rfl : (0 : Nat) = 0)) | (exact Nat.le_of_ble_eq_true rfl) | (exact hv2) | skip
      refine ⟨i, rfl, by omega, ?_⟩
      repeat' (first | apply And.intro | (intro q; exact absurd q (by decide)) | intro _)
      all_goals first | (with_reducible exact hC) | decide | (exact (rfl : (0 : Nat) = 0)) | (exact Nat.le_of_ble_eq_true rfl) | (exact hv2) | skip
      · rename_i q1
        refine ⟨0, 3, trivial, 1, rfl, rfl, rfl, rfl, rfl, Or.inl ⟨rfl, Or.inl ?_⟩⟩
        rw [ci]; rw [ci] at q1; exact q1
      · rename_i q1
        refine ⟨i, rfl, by omega, ?_⟩
        repeat' (first | apply And.intro | (intro q; exact absurd q (by decide)) | intro _)
        all_goals first | decide | (exact (rfl : (0 : Nat) = 0)) | (exact Nat.le_of_ble_eq_true rfl) | skip
        · rename_i q2
          refine ⟨0, 3, trivial, 0, rfl, rfl, rfl, rfl, rfl, Or.inr ⟨rfl, ?_⟩⟩
          rw [ci]; rw [ci] at q1 q2
          exact fun z => z.elim (fun y => q1 y) (fun y => y q2)
        · rename_i q2
          refine ⟨0, 3, trivial, 1, rfl, rfl, rfl, rfl, rfl, Or.inl ⟨rfl, Or.inr ?_⟩⟩
          rw [ci]; rw [ci] at q2; exact q2
    · rintro w u L st s ⟨x, rfl, rfl, rfl, rfl, rfl, hx⟩
      rcases hx with ⟨rfl, hx⟩ | ⟨rfl, hx⟩
      · rw [iteP_t hx] at h
        repeat' (first | apply And.intro | (intro q; exact absurd q (by decide)) | intro _)
        all_goals first | decide | (exact Nat.le_of_ble_eq_true rfl) | (exact hv2) | exact h
      · rw [iteP_f hx] at h
        repeat' (first | apply And.intro | (intro q; exact absurd q (by decide)) | (intro q; exact absurd rfl q) | intro _)
        all_goals first | decide | (exact Nat.le_of_ble_eq_true rfl) | (exact hv2) | exact h
  · refine ⟨[], ?_, an⟩
    repeat' (first | apply And.intro | (intro q; exact absurd q (by decide)) | (intro q; exact absurd q hv) | intro _)
    all_goals first | (with_reducible exact hC) | decide | (exact (rfl : (0 : Nat) = 0)) | (exact Nat.le_of_ble_eq_true rfl) | (exact hX (by assumption))
def inct (s : Sg) (v : Int32) : Prop := ∃ c, c < s.1 2 ∧ s.2.1 14 c 0 = v ∧ ¬ (s.2.1 14 c 2 = 2 ∨ s.2.1 14 c 2 = 3)
theorem dX4_isInCourt_0 : decode cX4_isInCourt 0 = .ok (.iconst 0, 1) := by decide +kernel
theorem dX4_isInCourt_1 : decode cX4_isInCourt 1 = .ok (.istore_n 2, 1) := by decide +kernel
theorem dX4_isInCourt_2 : decode cX4_isInCourt 2 = .ok (.iload_n 2, 1) := by decide +kernel
theorem dX4_isInCourt_3 : decode cX4_isInCourt 3 = .ok (.aload_n 0, 1) := by decide +kernel
theorem dX4_isInCourt_4 : decode cX4_isInCourt 4 = .ok (.getfield 19, 3) := by decide +kernel
theorem dX4_isInCourt_7 : decode cX4_isInCourt 7 = .ok (.invokevirtual 60, 3) := by decide +kernel
theorem dX4_isInCourt_10 : decode cX4_isInCourt 10 = .ok (.if_icmp .ge 38, 3) := by decide +kernel
theorem dX4_isInCourt_13 : decode cX4_isInCourt 13 = .ok (.aload_n 0, 1) := by decide +kernel
theorem dX4_isInCourt_14 : decode cX4_isInCourt 14 = .ok (.getfield 19, 3) := by decide +kernel
theorem dX4_isInCourt_17 : decode cX4_isInCourt 17 = .ok (.iload_n 2, 1) := by decide +kernel
theorem dX4_isInCourt_18 : decode cX4_isInCourt 18 = .ok (.invokevirtual 253, 3) := by decide +kernel
theorem dX4_isInCourt_21 : decode cX4_isInCourt 21 = .ok (.checkcast 153, 3) := by decide +kernel
theorem dX4_isInCourt_24 : decode cX4_isInCourt 24 = .ok (.astore_n 3, 1) := by decide +kernel
theorem dX4_isInCourt_25 : decode cX4_isInCourt 25 = .ok (.aload_n 3, 1) := by decide +kernel
theorem dX4_isInCourt_26 : decode cX4_isInCourt 26 = .ok (.getfield 187, 3) := by decide +kernel
theorem dX4_isInCourt_29 : decode cX4_isInCourt 29 = .ok (.iload_n 1, 1) := by decide +kernel
theorem dX4_isInCourt_30 : decode cX4_isInCourt 30 = .ok (.if_icmp .ne 12, 3) := by decide +kernel
theorem dX4_isInCourt_33 : decode cX4_isInCourt 33 = .ok (.aload_n 3, 1) := by decide +kernel
theorem dX4_isInCourt_34 : decode cX4_isInCourt 34 = .ok (.invokevirtual 283, 3) := by decide +kernel
theorem dX4_isInCourt_37 : decode cX4_isInCourt 37 = .ok (.ifCond .ne 5, 3) := by decide +kernel
theorem dX4_isInCourt_40 : decode cX4_isInCourt 40 = .ok (.iconst 1, 1) := by decide +kernel
theorem dX4_isInCourt_41 : decode cX4_isInCourt 41 = .ok (.ireturn, 1) := by decide +kernel
theorem dX4_isInCourt_42 : decode cX4_isInCourt 42 = .ok (.iinc 2 1, 3) := by decide +kernel
theorem dX4_isInCourt_45 : decode cX4_isInCourt 45 = .ok (.goto (-43), 3) := by decide +kernel
theorem dX4_isInCourt_48 : decode cX4_isInCourt 48 = .ok (.iconst 0, 1) := by decide +kernel
theorem dX4_isInCourt_49 : decode cX4_isInCourt 49 = .ok (.ireturn, 1) := by decide +kernel
def tab_X4_isInCourt : List (Nat × Sem) := [(0, op_ic 0 1), (1, op_is 2 2), (2, op_il 2 3), (3, op_al 0 4), (4, op_gf 6 2 7), (7, op_callV 1 sp_Jx4a65c_size_8abf5 1 0 10), (10, op_cmp (fun x y => y ≤ x) 48 13), (13, op_al 0 14), (14, op_gf 6 2 17), (17, op_il 2 18), (18, op_callV 1 sp_Jx4a65c_get_915e3 2 0 21), (21, op_cc 2 24), (24, op_as 3 25), (25, op_al 3 26), (26, op_gf 2 0 29), (29, op_il 1 30), (30, op_cmp (fun x y => ¬ x = y) 42 33), (33, op_al 3 34), (34, op_callV 2 sp_X0_isOver 1 0 37), (37, op_if (fun x => ¬ x = 0) 42 40), (40, op_ic 1 41), (41, op_zret), (42, op_inc 2 1 45), (45, op_go 2), (48, op_ic 0 49), (49, op_zret)]
set_option maxRecDepth 20000 in
theorem tok_X4_isInCourt : ∀ q ∈ tab_X4_isInCourt, Snd RX4 cX4_isInCourt 4 4 0 (some .boolean) q.1 q.2 := by
  unfold tab_X4_isInCourt
  refine tcons (ok_iconst dX4_isInCourt_0 rfl rfl) ?_
  refine tcons (ok_istore_n dX4_isInCourt_1 rfl (by decide) rfl) ?_
  refine tcons (ok_iload_n dX4_isInCourt_2 rfl rfl) ?_
  refine tcons (ok_aload_n dX4_isInCourt_3 rfl rfl) ?_
  refine tcons (ok_getfield (C := RX4) (T := TX4) (n := 8) rfl in_X4 (by decide) w_100 dX4_isInCourt_4 rfl) ?_
  refine tcons (ok_invokevirtual M_Jx4a65c_size_8abf5 (C := RJx4a65c) (T := TJx4a65c) (nf := 3) rfl w_142 w_143 w_144 w_23 w_145 ⟨rfl, by decide, by decide, by decide +kernel⟩ (by decide) (by decide) dX4_isInCourt_7 rfl) ?_
  refine tcons (ok_icmp_ge dX4_isInCourt_10 rfl rfl) ?_
  refine tcons (ok_aload_n dX4_isInCourt_13 rfl rfl) ?_
  refine tcons (ok_getfield (C := RX4) (T := TX4) (n := 8) rfl in_X4 (by decide) w_100 dX4_isInCourt_14 rfl) ?_
  refine tcons (ok_iload_n dX4_isInCourt_17 rfl rfl) ?_
  refine tcons (ok_invokevirtual M_Jx4a65c_get_915e3 (C := RJx4a65c) (T := TJx4a65c) (nf := 3) rfl w_364 w_365 w_366 w_23 w_367 ⟨rfl, by decide, by decide, by decide +kernel⟩ (by decide) (by decide) dX4_isInCourt_18 rfl) ?_
  refine tcons (ok_checkcast (C := RX0) (T := TX0) (n := 7) rfl w_533 dX4_isInCourt_21 rfl) ?_
  refine tcons (ok_astore_n dX4_isInCourt_24 rfl (by decide) rfl) ?_
  refine tcons (ok_aload_n dX4_isInCourt_25 rfl rfl) ?_
  refine tcons (ok_getfield (C := RX0) (T := TX0) (n := 7) rfl in_X0 (by decide) w_568 dX4_isInCourt_26 rfl) ?_
  refine tcons (ok_iload_n dX4_isInCourt_29 rfl rfl) ?_
  refine tcons (ok_icmp_ne dX4_isInCourt_30 rfl rfl) ?_
  refine tcons (ok_aload_n dX4_isInCourt_33 rfl rfl) ?_
  refine tcons (ok_invokevirtual M_X0_isOver (C := RX0) (T := TX0) (nf := 7) rfl w_534 w_535 w_536 w_39 w_537 ⟨rfl, by decide, by decide, by decide +kernel⟩ (by decide) (by decide) dX4_isInCourt_34 rfl) ?_
  refine tcons (ok_if_ne dX4_isInCourt_37 rfl rfl) ?_
  refine tcons (ok_iconst dX4_isInCourt_40 rfl rfl) ?_
  refine tcons (ok_zreturn rfl (Or.inl rfl) dX4_isInCourt_41) ?_
  refine tcons (ok_iinc dX4_isInCourt_42 rfl (by decide) rfl) ?_
  refine tcons (ok_goto dX4_isInCourt_45 rfl) ?_
  refine tcons (ok_iconst dX4_isInCourt_48 rfl rfl) ?_
  refine tcons (ok_zreturn rfl (Or.inl rfl) dX4_isInCourt_49) ?_
  exact fun _ h => nomatch h
def sp_X4_isInCourt : Spc := fun av s N X => match av with
  | [.inl (.inr (1, 0)), .inl (.inl v)] => CI s ∧ br (inct s v) N s
  | _ => False
set_option maxRecDepth 20000 in
set_option maxHeartbeats 2000000 in
theorem M_X4_isInCourt : AMet yX4_isInCourt cX4_isInCourt 4 (some .boolean) 4 0 sp_X4_isInCourt := by
  refine AMet.mc (own := RX4) (by decide) rfl [0, 1, 2, 3] rfl tok_X4_isInCourt 200 ?_
  intro av s0 N X h
  unfold sp_X4_isInCourt at h
  split at h
  rotate_left
  · exact h.elim
  rename_i v
  obtain ⟨hC, h⟩ := h
  have hlt := Gd_lt (CI_2 hC)
  have g1 := CI_2 hC
  refine ⟨[(2, fun w u L st s => ∃ k, k ≤ s0.1 2 ∧ w = s0.1 2 - k ∧ u = 0 ∧ L = [(0, .inr (1, 0)), (1, .inl v), (2, .inl (nI k))] ∧ st = [] ∧ s = s0 ∧ ∀ c, c < k → ¬ (s0.2.1 14 c 0 = v ∧ ¬ (s0.2.1 14 c 2 = 2 ∨ s0.2.1 14 c 2 = 3)))], ?_, ac ?_ an⟩
  · repeat' (first | apply And.intro | (intro q; exact absurd q (by decide)) | intro _)
    all_goals first | decide | (exact (rfl : (0 : Nat) = 0)) | (exact Nat.le_of_ble_eq_true rfl) | (exact ⟨s0.1 2, 3, trivial, 0, Nat.zero_le _, rfl, rfl, rfl, rfl, rfl, fun c hc => absurd hc (Nat.not_lt_zero c)⟩)
  · rintro w u L st s ⟨k, hk, rfl, rfl, rfl, rfl, rfl, he⟩
    by_cases hkm : k < s.1 2
    · have hle2 : ¬ nI (s.1 2) ≤ nI k := fun q => by have := (nIge (N := 200) (by omega) (by omega) (by decide)).mp q; omega
      have h0 : (0 : Int32) ≤ nI k := Int32.not_lt.mp (nI_pos (by omega))
      have h1 : nI k < nI (s.1 2) := nI_lt (by omega) (by omega)
      have ck : cl (nI k) = k := nI_clamp (by omega)
      have hv0 : cl (nI k) < s.1 2 := by rw [ck]; omega
      have hv : Lv s 14 (cl (nI k)) := Nat.lt_of_lt_of_le hv0 (Nat.le_add_right _ _)
      have go : ¬ (s.2.1 14 (cl (nI k)) 0 = v ∧ ¬ (s.2.1 14 (cl (nI k)) 2 = 2 ∨ s.2.1 14 (cl (nI k)) 2 = 3)) → ∀ c, c < k + 1 → ¬ (s.2.1 14 c 0 = v ∧ ¬ (s.2.1 14 c 2 = 2 ∨ s.2.1 14 c 2 = 3)) := by
        intro z c hc
        by_cases e : c = k
        · rw [e]; rw [ck] at z; exact z
        · exact he c (by omega)
      repeat' (first | apply And.intro | (intro q; exact absurd q (by decide)) | (intro q; exact absurd q hle2) | intro _)
      all_goals first | (with_reducible exact g1) | (with_reducible exact h0) | (with_reducible exact h1) | (exact (rfl : (0 : Nat) = 0)) | (exact Nat.le_of_ble_eq_true rfl) | (exact hv) |
        (exact (Or.inr rfl : (1 : Int32) = 0 ∨ (1 : Int32) = 1)) | (exact h.1 ⟨cl (nI k), hv0, Classical.not_not.mp (by assumption), by assumption⟩) |
        (exact ⟨s.1 2 - (k + 1), 3, by omega, k + 1, by omega, rfl, rfl, by rw [← nIs]; rfl, rfl, rfl, go (fun z => absurd z.1 (by assumption))⟩) |
        (exact ⟨s.1 2 - (k + 1), 3, by omega, k + 1, by omega, rfl, rfl, by rw [← nIs]; rfl, rfl, rfl, go (fun z => absurd (by assumption) z.2)⟩)
    · obtain rfl : k = s.1 2 := by omega
      have hle : nI (s.1 2) ≤ nI (s.1 2) := nI_le (Nat.le_refl _) (by omega)
      have hn : ¬ inct s v := fun ⟨c, hc, z⟩ => he c hc z
      repeat' (first | apply And.intro | (intro q; exact absurd q (by decide)) | (intro q; exact absurd hle q) | intro _)
      all_goals first | decide | (exact (rfl : (0 : Nat) = 0)) | (exact Nat.le_of_ble_eq_true rfl) | exact h.2 hn
def mbj (s : Sg) (v : Int32) : Prop := (s.2.1 13 (cl v) 6 = 0 ∨ s.2.1 13 (cl v) 6 = 3) ∧ ¬ inct s v
theorem dX4_mayBeJudged_0 : decode cX4_mayBeJudged 0 = .ok (.aload_n 0, 1) := by decide +kernel
theorem dX4_mayBeJudged_1 : decode cX4_mayBeJudged 1 = .ok (.iload_n 1, 1) := by decide +kernel
theorem dX4_mayBeJudged_2 : decode cX4_mayBeJudged 2 = .ok (.invokevirtual 124, 3) := by decide +kernel
theorem dX4_mayBeJudged_5 : decode cX4_mayBeJudged 5 = .ok (.getfield 128, 3) := by decide +kernel
theorem dX4_mayBeJudged_8 : decode cX4_mayBeJudged 8 = .ok (.istore_n 2, 1) := by decide +kernel
theorem dX4_mayBeJudged_9 : decode cX4_mayBeJudged 9 = .ok (.iload_n 2, 1) := by decide +kernel
theorem dX4_mayBeJudged_10 : decode cX4_mayBeJudged 10 = .ok (.ifCond .eq 8, 3) := by decide +kernel
theorem dX4_mayBeJudged_13 : decode cX4_mayBeJudged 13 = .ok (.iload_n 2, 1) := by decide +kernel
theorem dX4_mayBeJudged_14 : decode cX4_mayBeJudged 14 = .ok (.iconst 3, 1) := by decide +kernel
theorem dX4_mayBeJudged_15 : decode cX4_mayBeJudged 15 = .ok (.if_icmp .ne 15, 3) := by decide +kernel
theorem dX4_mayBeJudged_18 : decode cX4_mayBeJudged 18 = .ok (.aload_n 0, 1) := by decide +kernel
theorem dX4_mayBeJudged_19 : decode cX4_mayBeJudged 19 = .ok (.iload_n 1, 1) := by decide +kernel
theorem dX4_mayBeJudged_20 : decode cX4_mayBeJudged 20 = .ok (.invokevirtual 137, 3) := by decide +kernel
theorem dX4_mayBeJudged_23 : decode cX4_mayBeJudged 23 = .ok (.ifCond .ne 7, 3) := by decide +kernel
theorem dX4_mayBeJudged_26 : decode cX4_mayBeJudged 26 = .ok (.iconst 1, 1) := by decide +kernel
theorem dX4_mayBeJudged_27 : decode cX4_mayBeJudged 27 = .ok (.goto 4, 3) := by decide +kernel
theorem dX4_mayBeJudged_30 : decode cX4_mayBeJudged 30 = .ok (.iconst 0, 1) := by decide +kernel
theorem dX4_mayBeJudged_31 : decode cX4_mayBeJudged 31 = .ok (.ireturn, 1) := by decide +kernel
def tab_X4_mayBeJudged : List (Nat × Sem) := [(0, op_al 0 1), (1, op_il 1 2), (2, op_callV 6 sp_X4_vowAt 2 1 5), (5, op_gf 5 6 8), (8, op_is 2 9), (9, op_il 2 10), (10, op_if (fun x => x = 0) 18 13), (13, op_il 2 14), (14, op_ic 3 15), (15, op_cmp (fun x y => ¬ x = y) 30 18), (18, op_al 0 19), (19, op_il 1 20), (20, op_callV 6 sp_X4_isInCourt 2 0 23), (23, op_if (fun x => ¬ x = 0) 30 26), (26, op_ic 1 27), (27, op_go 31), (30, op_ic 0 31), (31, op_zret)]
set_option maxRecDepth 20000 in
theorem tok_X4_mayBeJudged : ∀ q ∈ tab_X4_mayBeJudged, Snd RX4 cX4_mayBeJudged 3 8 1 (some .boolean) q.1 q.2 := by
  unfold tab_X4_mayBeJudged
  refine tcons (ok_aload_n dX4_mayBeJudged_0 rfl rfl) ?_
  refine tcons (ok_iload_n dX4_mayBeJudged_1 rfl rfl) ?_
  refine tcons (ok_invokevirtual M_X4_vowAt (C := RX4) (T := TX4) (nf := 8) rfl w_506 w_508 w_10 w_20 w_509 ⟨rfl, by decide, by decide, by decide +kernel⟩ (by decide) (by decide) dX4_mayBeJudged_2 rfl) ?_
  refine tcons (ok_getfield (C := RX3) (T := TX3) (n := 8) rfl in_X3 (by decide) w_479 dX4_mayBeJudged_5 rfl) ?_
  refine tcons (ok_istore_n dX4_mayBeJudged_8 rfl (by decide) rfl) ?_
  refine tcons (ok_iload_n dX4_mayBeJudged_9 rfl rfl) ?_
  refine tcons (ok_if_eq dX4_mayBeJudged_10 rfl rfl) ?_
  refine tcons (ok_iload_n dX4_mayBeJudged_13 rfl rfl) ?_
  refine tcons (ok_iconst dX4_mayBeJudged_14 rfl rfl) ?_
  refine tcons (ok_icmp_ne dX4_mayBeJudged_15 rfl rfl) ?_
  refine tcons (ok_aload_n dX4_mayBeJudged_18 rfl rfl) ?_
  refine tcons (ok_iload_n dX4_mayBeJudged_19 rfl rfl) ?_
  refine tcons (ok_invokevirtual M_X4_isInCourt (C := RX4) (T := TX4) (nf := 8) rfl w_529 w_531 w_13 w_20 w_532 ⟨rfl, by decide, by decide, by decide +kernel⟩ (by decide) (by decide) dX4_mayBeJudged_20 rfl) ?_
  refine tcons (ok_if_ne dX4_mayBeJudged_23 rfl rfl) ?_
  refine tcons (ok_iconst dX4_mayBeJudged_26 rfl rfl) ?_
  refine tcons (ok_goto dX4_mayBeJudged_27 rfl) ?_
  refine tcons (ok_iconst dX4_mayBeJudged_30 rfl rfl) ?_
  refine tcons (ok_zreturn rfl (Or.inl rfl) dX4_mayBeJudged_31) ?_
  exact fun _ h => nomatch h
def sp_X4_mayBeJudged : Spc := fun av s N X => match av with
  | [.inl (.inr (1, 0)), .inl (.inl v)] => CI s ∧ iC s 1 v ∧ br (mbj s v) N s
  | _ => False
set_option maxRecDepth 20000 in
set_option maxHeartbeats 2000000 in
theorem M_X4_mayBeJudged : AMet yX4_mayBeJudged cX4_mayBeJudged 3 (some .boolean) 8 1 sp_X4_mayBeJudged := by
  refine AMet.mk (own := RX4) (by decide) rfl [0, 1, 2] rfl tok_X4_mayBeJudged 200 ?_
  intro av s0 N X h
  unfold sp_X4_mayBeJudged at h
  split at h
  rotate_left
  · exact h.elim
  refine ⟨fun _ => none, ?_, fun pc P hP => nomatch hP⟩
  repeat' (first | apply And.intro | (intro q; exact absurd q (by decide)) | intro _)
  all_goals first | decide | (exact (rfl : (0 : Nat) = 0)) | (exact Nat.le_of_ble_eq_true rfl) | (exact h.1) | (exact absurd h.2.1 (by assumption)) | (exact iC_v h.1 h.2.1) | (simp_all [-Int32.not_lt, -Int32.not_le, br, mbj]; done) | (simp_all [-Int32.not_lt, -Int32.not_le, ← Int32.not_le, br, mbj]; done) | (simp_all [br, mbj]; done)

