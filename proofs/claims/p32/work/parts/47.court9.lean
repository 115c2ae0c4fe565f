/-! VowCourt's public methods: sentences, dispensations -/
theorem w_628 : (.methodLink "VowCourt" 180 ⟨"VowCourt$Cause", "majority", "()I"⟩ : Cond) ∈ TB := TB_mem (List.mem_of_getElem? (i := 628) (by decide +kernel)) rfl
theorem w_629 : (.instanceMethod ⟨"VowCourt$Cause", "majority", "()I"⟩ : Cond) ∈ TB := TB_mem (List.mem_of_getElem? (i := 629) (by decide +kernel)) rfl
theorem w_630 : (.selects "VowCourt$Cause" ⟨"VowCourt$Cause", "majority", "()I"⟩ ⟨"VowCourt$Cause", "majority", "()I"⟩ : Cond) ∈ TB := TB_mem (List.mem_of_getElem? (i := 630) (by decide +kernel)) rfl
theorem w_631 : (.code yX0_majority cX0_majority 1 (some .int) : Cond) ∈ TB := TB_mem (List.mem_of_getElem? (i := 631) (by decide +kernel)) rfl
theorem w_632 : (.methodLink "VowCourt" 183 ⟨"VowCourt$Cause", "conclude", "(I)V"⟩ : Cond) ∈ TB := TB_mem (List.mem_of_getElem? (i := 632) (by decide +kernel)) rfl
theorem w_633 : (.instanceMethod ⟨"VowCourt$Cause", "conclude", "(I)V"⟩ : Cond) ∈ TB := TB_mem (List.mem_of_getElem? (i := 633) (by decide +kernel)) rfl
theorem w_634 : (.selects "VowCourt$Cause" ⟨"VowCourt$Cause", "conclude", "(I)V"⟩ ⟨"VowCourt$Cause", "conclude", "(I)V"⟩ : Cond) ∈ TB := TB_mem (List.mem_of_getElem? (i := 634) (by decide +kernel)) rfl
theorem w_635 : (.code yX0_conclude cX0_conclude 2 none : Cond) ∈ TB := TB_mem (List.mem_of_getElem? (i := 635) (by decide +kernel)) rfl
theorem CI_sI {s : Sg} {t i n : Nat} {v : Int32} (h13 : ¬ t = 13) (h14 : ¬ t = 14) (h : CI s) : CI (stI s t i n v) := by
  have h := of_eq_true h
  refine eq_true ⟨h.1, h.2.1, h.2.2.1, h.2.2.2.1, fun a ha => ?_, fun a ha => ?_⟩
  · rw [stI_get, if_neg (fun z => h13 z.1.symm), stI_get, if_neg (fun z => h13 z.1.symm)]
    exact h.2.2.2.2.1 a ha
  · rw [stI_get, if_neg (fun z => h14 z.1.symm)]
    exact h.2.2.2.2.2 a ha
theorem CI_reo {s : Sg} {i : Nat} (h : CI s) : CI (reoC s i) := CI_sI (by decide) (by decide) (CI_ct (by decide) (CI_ct (by decide) h))
theorem CI_cf {s : Sg} {i : Nat} {d : Int32} (h : CI s) : CI (cfC s i d) := by
  unfold cfC
  by_cases c : d = 0
  · rw [iteP_t c]; exact CI_ct (by decide) (CI_st (by decide) (by decide) h)
  · rw [iteP_f c]; exact CI_reo (CI_st (by decide) (by decide) h)
theorem CI_cs {s : Sg} {i : Nat} {d : Int32} (h : CI s) : CI (csC s i d) := by
  unfold csC
  by_cases c : likeC d (s.2.1 17 i 0)
  · rw [iteP_t c]; exact CI_ct (by decide) (CI_st (by decide) (by decide) h)
  · rw [iteP_f c]; exact CI_reo (CI_st (by decide) (by decide) h)
theorem CI_ctt {s : Sg} {i : Nat} {d : Int32} (h : CI s) : CI (ctC s i d) := CI_ct (by decide) (CI_st (by decide) (by decide) h)
noncomputable def coC (s : Sg) (i : Nat) (d : Int32) : Sg := iteP (s.2.1 14 i 3 = 1) (cfC s i d) (iteP (s.2.1 14 i 3 = 2) (csC s i d) (ctC s i d))
theorem CI_co {s : Sg} {i : Nat} {d : Int32} (h : CI s) : CI (coC s i d) := by
  unfold coC
  by_cases c : s.2.1 14 i 3 = 1
  · rw [iteP_t c]; exact CI_cf h
  · rw [iteP_f c]
    by_cases c2 : s.2.1 14 i 3 = 2
    · rw [iteP_t c2]; exact CI_cs h
    · rw [iteP_f c2]; exact CI_ctt h
theorem co_1 {s : Sg} {i : Nat} {d : Int32} : (coC s i d).1 = s.1 := by
  unfold coC
  by_cases c : s.2.1 14 i 3 = 1
  · rw [iteP_t c]; unfold cfC; by_cases c3 : d = 0
    · rw [iteP_t c3]; rfl
    · rw [iteP_f c3]; rfl
  · rw [iteP_f c]
    by_cases c2 : s.2.1 14 i 3 = 2
    · rw [iteP_t c2]; unfold csC; by_cases c3 : likeC d (s.2.1 17 i 0)
      · rw [iteP_t c3]; rfl
      · rw [iteP_f c3]; rfl
    · rw [iteP_f c2]; rfl
noncomputable def seS (z : Sg) (i : Nat) : Sg := iteP (z.2.1 14 i 2 = 2) (stS (stS z 13 (cl (z.2.1 14 i 0)) 6 1) 13 (cl (z.2.1 14 i 0)) 7 (z.2.1 1 0 7)) z
def mjC (s : Sg) (i : Nat) : Int32 := maj3 (s.2.1 16 i 0) (s.2.1 16 i 1) (s.2.1 16 i 2)
theorem dX4_sentence_0 : decode cX4_sentence 0 = .ok (.aload_n 0, 1) := by decide +kernel
theorem dX4_sentence_1 : decode cX4_sentence 1 = .ok (.iload_n 1, 1) := by decide +kernel
theorem dX4_sentence_2 : decode cX4_sentence 2 = .ok (.invokevirtual 156, 3) := by decide +kernel
theorem dX4_sentence_5 : decode cX4_sentence 5 = .ok (.astore_n 2, 1) := by decide +kernel
theorem dX4_sentence_6 : decode cX4_sentence 6 = .ok (.aload_n 2, 1) := by decide +kernel
theorem dX4_sentence_7 : decode cX4_sentence 7 = .ok (.getfield 160, 3) := by decide +kernel
theorem dX4_sentence_10 : decode cX4_sentence 10 = .ok (.iconst 1, 1) := by decide +kernel
theorem dX4_sentence_11 : decode cX4_sentence 11 = .ok (.if_icmp .ne 15, 3) := by decide +kernel
theorem dX4_sentence_14 : decode cX4_sentence 14 = .ok (.aload_n 2, 1) := by decide +kernel
theorem dX4_sentence_15 : decode cX4_sentence 15 = .ok (.invokevirtual 177, 3) := by decide +kernel
theorem dX4_sentence_18 : decode cX4_sentence 18 = .ok (.iconst 3, 1) := by decide +kernel
theorem dX4_sentence_19 : decode cX4_sentence 19 = .ok (.if_icmp .ne 7, 3) := by decide +kernel
theorem dX4_sentence_22 : decode cX4_sentence 22 = .ok (.iconst 1, 1) := by decide +kernel
theorem dX4_sentence_23 : decode cX4_sentence 23 = .ok (.goto 4, 3) := by decide +kernel
theorem dX4_sentence_26 : decode cX4_sentence 26 = .ok (.iconst 0, 1) := by decide +kernel
theorem dX4_sentence_27 : decode cX4_sentence 27 = .ok (.invokestatic 64, 3) := by decide +kernel
theorem dX4_sentence_30 : decode cX4_sentence 30 = .ok (.aload_n 2, 1) := by decide +kernel
theorem dX4_sentence_31 : decode cX4_sentence 31 = .ok (.invokevirtual 180, 3) := by decide +kernel
theorem dX4_sentence_34 : decode cX4_sentence 34 = .ok (.istore_n 3, 1) := by decide +kernel
theorem dX4_sentence_35 : decode cX4_sentence 35 = .ok (.aload_n 2, 1) := by decide +kernel
theorem dX4_sentence_36 : decode cX4_sentence 36 = .ok (.iload_n 3, 1) := by decide +kernel
theorem dX4_sentence_37 : decode cX4_sentence 37 = .ok (.invokevirtual 183, 3) := by decide +kernel
theorem dX4_sentence_40 : decode cX4_sentence 40 = .ok (.aload_n 2, 1) := by decide +kernel
theorem dX4_sentence_41 : decode cX4_sentence 41 = .ok (.getfield 160, 3) := by decide +kernel
theorem dX4_sentence_44 : decode cX4_sentence 44 = .ok (.iconst 2, 1) := by decide +kernel
theorem dX4_sentence_45 : decode cX4_sentence 45 = .ok (.if_icmp .ne 19, 3) := by decide +kernel
theorem dX4_sentence_48 : decode cX4_sentence 48 = .ok (.aload_n 0, 1) := by decide +kernel
theorem dX4_sentence_49 : decode cX4_sentence 49 = .ok (.aload_n 2, 1) := by decide +kernel
theorem dX4_sentence_50 : decode cX4_sentence 50 = .ok (.getfield 187, 3) := by decide +kernel
theorem dX4_sentence_53 : decode cX4_sentence 53 = .ok (.invokevirtual 124, 3) := by decide +kernel
theorem dX4_sentence_56 : decode cX4_sentence 56 = .ok (.iconst 1, 1) := by decide +kernel
theorem dX4_sentence_57 : decode cX4_sentence 57 = .ok (.aload_n 0, 1) := by decide +kernel
theorem dX4_sentence_58 : decode cX4_sentence 58 = .ok (.getfield 41, 3) := by decide +kernel
theorem dX4_sentence_61 : decode cX4_sentence 61 = .ok (.invokevirtual 140, 3) := by decide +kernel
theorem dX4_sentence_64 : decode cX4_sentence 64 = .ok (.iload_n 3, 1) := by decide +kernel
theorem dX4_sentence_65 : decode cX4_sentence 65 = .ok (.ireturn, 1) := by decide +kernel
def tab_X4_sentence : List (Nat × Sem) := [(0, op_al 0 1), (1, op_il 1 2), (2, op_callV 6 sp_X4_causeAt 2 1 5), (5, op_as 2 6), (6, op_al 2 7), (7, op_gf 2 2 10), (10, op_ic 1 11), (11, op_cmp (fun x y => ¬ x = y) 26 14), (14, op_al 2 15), (15, op_callV 2 sp_X0_votesCast 1 0 18), (18, op_ic 3 19), (19, op_cmp (fun x y => ¬ x = y) 26 22), (22, op_ic 1 23), (23, op_go 27), (26, op_ic 0 27), (27, op_call sp_X4_checkPossible 1 1 30), (30, op_al 2 31), (31, op_callV 2 sp_X0_majority 1 0 34), (34, op_is 3 35), (35, op_al 2 36), (36, op_il 3 37), (37, op_callV 2 sp_X0_conclude 2 0 40), (40, op_al 2 41), (41, op_gf 2 2 44), (44, op_ic 2 45), (45, op_cmp (fun x y => ¬ x = y) 64 48), (48, op_al 0 49), (49, op_al 2 50), (50, op_gf 2 0 53), (53, op_callV 6 sp_X4_vowAt 2 1 56), (56, op_ic 1 57), (57, op_al 0 58), (58, op_gf 6 7 61), (61, op_callV 5 sp_X3_turn 3 0 64), (64, op_il 3 65), (65, op_iret)]
set_option maxRecDepth 20000 in
theorem tok_X4_sentence : ∀ q ∈ tab_X4_sentence, Snd RX4 cX4_sentence 4 8 3 (some .int) q.1 q.2 := by
  unfold tab_X4_sentence
  refine tcons (ok_aload_n dX4_sentence_0 rfl rfl) ?_
  refine tcons (ok_iload_n dX4_sentence_1 rfl rfl) ?_
  refine tcons (ok_invokevirtual M_X4_causeAt (C := RX4) (T := TX4) (nf := 8) rfl w_600 w_602 w_17 w_20 w_603 ⟨rfl, by decide, by decide, by decide +kernel⟩ (by decide) (by decide) dX4_sentence_2 rfl) ?_
  refine tcons (ok_astore_n dX4_sentence_5 rfl (by decide) rfl) ?_
  refine tcons (ok_aload_n dX4_sentence_6 rfl rfl) ?_
  refine tcons (ok_getfield (C := RX0) (T := TX0) (n := 7) rfl in_X0 (by decide) w_572 dX4_sentence_7 rfl) ?_
  refine tcons (ok_iconst dX4_sentence_10 rfl rfl) ?_
  refine tcons (ok_icmp_ne dX4_sentence_11 rfl rfl) ?_
  refine tcons (ok_aload_n dX4_sentence_14 rfl rfl) ?_
  refine tcons (ok_invokevirtual M_X0_votesCast (C := RX0) (T := TX0) (nf := 7) rfl w_620 w_621 w_622 w_39 w_623 ⟨rfl, by decide, by decide, by decide +kernel⟩ (by decide) (by decide) dX4_sentence_15 rfl) ?_
  refine tcons (ok_iconst dX4_sentence_18 rfl rfl) ?_
  refine tcons (ok_icmp_ne dX4_sentence_19 rfl rfl) ?_
  refine tcons (ok_iconst dX4_sentence_22 rfl rfl) ?_
  refine tcons (ok_goto dX4_sentence_23 rfl) ?_
  refine tcons (ok_iconst dX4_sentence_26 rfl rfl) ?_
  refine tcons (ok_invokestatic M_X4_checkPossible w_240 w_241 w_20 w_242 ⟨by decide, by decide, by decide +kernel⟩ (by decide) (by decide) dX4_sentence_27 rfl) ?_
  refine tcons (ok_aload_n dX4_sentence_30 rfl rfl) ?_
  refine tcons (ok_invokevirtual M_X0_majority (C := RX0) (T := TX0) (nf := 7) rfl w_628 w_629 w_630 w_39 w_631 ⟨rfl, by decide, by decide, by decide +kernel⟩ (by decide) (by decide) dX4_sentence_31 rfl) ?_
  refine tcons (ok_istore_n dX4_sentence_34 rfl (by decide) rfl) ?_
  refine tcons (ok_aload_n dX4_sentence_35 rfl rfl) ?_
  refine tcons (ok_iload_n dX4_sentence_36 rfl rfl) ?_
  refine tcons (ok_invokevirtual M_X0_conclude (C := RX0) (T := TX0) (nf := 7) rfl w_632 w_633 w_634 w_39 w_635 ⟨rfl, by decide, by decide, by decide +kernel⟩ (by decide) (by decide) dX4_sentence_37 rfl) ?_
  refine tcons (ok_aload_n dX4_sentence_40 rfl rfl) ?_
  refine tcons (ok_getfield (C := RX0) (T := TX0) (n := 7) rfl in_X0 (by decide) w_572 dX4_sentence_41 rfl) ?_
  refine tcons (ok_iconst dX4_sentence_44 rfl rfl) ?_
  refine tcons (ok_icmp_ne dX4_sentence_45 rfl rfl) ?_
  refine tcons (ok_aload_n dX4_sentence_48 rfl rfl) ?_
  refine tcons (ok_aload_n dX4_sentence_49 rfl rfl) ?_
  refine tcons (ok_getfield (C := RX0) (T := TX0) (n := 7) rfl in_X0 (by decide) w_568 dX4_sentence_50 rfl) ?_
  refine tcons (ok_invokevirtual M_X4_vowAt (C := RX4) (T := TX4) (nf := 8) rfl w_506 w_508 w_10 w_20 w_509 ⟨rfl, by decide, by decide, by decide +kernel⟩ (by decide) (by decide) dX4_sentence_53 rfl) ?_
  refine tcons (ok_iconst dX4_sentence_56 rfl rfl) ?_
  refine tcons (ok_aload_n dX4_sentence_57 rfl rfl) ?_
  refine tcons (ok_getfield (C := RX4) (T := TX4) (n := 8) rfl in_X4 (by decide) w_105 dX4_sentence_58 rfl) ?_
  refine tcons (ok_invokevirtual M_X3_turn (C := RX3) (T := TX3) (nf := 8) rfl w_406 w_407 w_408 w_38 w_409 ⟨rfl, by decide, by decide, by decide +kernel⟩ (by decide) (by decide) dX4_sentence_61 rfl) ?_
  refine tcons (ok_iload_n dX4_sentence_64 rfl rfl) ?_
  refine tcons (ok_ireturn rfl dX4_sentence_65) ?_
  exact fun _ h => nomatch h
def sp_X4_sentence : Spc := fun av s N X => match av with
  | [.inl (.inr (1, 0)), .inl (.inl c)] => CI s ∧ chk (iC s 2 c) 1 s X (chk (s.2.1 14 (cl c) 2 = 1 ∧ vcC s (cl c) = 3) 3 s X (N (some (aI (mjC s (cl c)))) (seS (coC s (cl c) (mjC s (cl c))) (cl c))))
  | _ => False
set_option maxRecDepth 20000 in
set_option maxHeartbeats 2000000 in
theorem M_X4_sentence : AMet yX4_sentence cX4_sentence 4 (some .int) 8 3 sp_X4_sentence := by
  refine AMet.mc (own := RX4) (by decide) rfl [0, 1, 2, 3] rfl tok_X4_sentence 200 ?_
  intro av s0 N X h
  unfold sp_X4_sentence at h
  split at h
  rotate_left
  · exact h.elim
  rename_i c
  obtain ⟨hC, hX, h⟩ := h
  by_cases hc : iC s0 2 c
  · obtain ⟨hX2, h⟩ := h hc
    have lc := iC_c hC hc
    by_cases hk : s0.2.1 14 (cl c) 2 = 1 ∧ vcC s0 (cl c) = 3
    · have h := h hk
      obtain ⟨hk1, hk2⟩ := hk
      refine ⟨[(40, fun w u L st s => w = 0 ∧ u = 2 ∧ L = [(0, .inr (1, 0)), (1, .inl c), (2, .inr (14, cl c)), (3, .inl (mjC s0 (cl c)))] ∧ st = [] ∧ s = coC s0 (cl c) (mjC s0 (cl c)))], ?_, ac ?_ an⟩
      · have k1 : ¬ ¬ s0.2.1 14 (cl c) 2 = 1 := fun z => z hk1
        have k2 : ¬ ¬ vcC s0 (cl c) = 3 := fun z => z hk2
        clear h hX hX2
        repeat' (first | apply And.intro | (intro q; exact absurd q (by decide)) | (intro q; exact absurd hc q) | (intro q; exact absurd q k1) | (intro q; exact absurd q k2) | intro _)
        all_goals first | (with_reducible exact hC) | decide | (exact (rfl : (0 : Nat) = 0)) | (exact Nat.le_of_ble_eq_true rfl) | (exact lc) | skip
        · rename_i z
          refine ⟨0, 4, trivial, rfl, rfl, rfl, rfl, ?_⟩
          rw [coC, iteP_t z]; rfl
        · rename_i z
          refine ⟨0, 4, trivial, rfl, rfl, rfl, rfl, ?_⟩
          rw [coC, iteP_f (show ¬ s0.2.1 14 (cl c) 3 = 1 from fun y => by rw [y] at z; exact absurd z (by decide)), iteP_t z]; rfl
        · rename_i z1 z2
          refine ⟨0, 4, trivial, rfl, rfl, rfl, rfl, ?_⟩
          rw [coC, iteP_f z1, iteP_f z2]; rfl
      · rintro w u L st s ⟨rfl, rfl, rfl, rfl, rfl⟩
        have hC2 : CI (coC s0 (cl c) (mjC s0 (cl c))) := CI_co hC
        have lc2 : Lv (coC s0 (cl c) (mjC s0 (cl c))) 14 (cl c) := by show cl c < (coC s0 (cl c) (mjC s0 (cl c))).1 2 + (coC s0 (cl c) (mjC s0 (cl c))).1 8; rw [co_1]; exact lc
        obtain ⟨z, hz⟩ : ∃ z, z = coC s0 (cl c) (mjC s0 (cl c)) := ⟨_, rfl⟩
        obtain ⟨m, hm⟩ : ∃ m, m = mjC s0 (cl c) := ⟨_, rfl⟩
        rw [← hz] at h hC2 lc2 ⊢
        rw [← hm] at h ⊢
        clear hz hm hX hX2
        have hv := CI_of hC2 lc2
        have lv := iC_v hC2 hv
        by_cases h2 : z.2.1 14 (cl c) 2 = 2
        · have k2 : ¬ ¬ z.2.1 14 (cl c) 2 = 2 := fun y => y h2
          rw [seS, iteP_t h2] at h
          repeat' (first | apply And.intro | (intro q; exact absurd q (by decide)) | (intro q; exact absurd hv q) | (intro q; exact absurd q k2) | intro _)
          all_goals first | (with_reducible exact hC2) | decide | (exact (rfl : (0 : Nat) = 0)) | (exact Nat.le_of_ble_eq_true rfl) | (exact lc2) | (exact lv) | exact h
        · rw [seS, iteP_f h2] at h
          repeat' (first | apply And.intro | (intro q; exact absurd q (by decide)) | (intro q; exact absurd h2 q) | intro _)
          all_goals first | (with_reducible exact hC2) | decide | (exact (rfl : (0 : Nat) = 0)) | (exact Nat.le_of_ble_eq_true rfl) | (exact lc2) | exact h
    · have hX2 := hX2 hk
      refine ⟨[], ?_, an⟩
      repeat' (first | apply And.intro | (intro q; exact absurd q (by decide)) | (intro q; exact absurd hc q) | intro _)
      all_goals first | (with_reducible exact hC) | decide | (exact (rfl : (0 : Nat) = 0)) | (exact Nat.le_of_ble_eq_true rfl) | (exact lc) | (exact hX2) | (exact absurd (⟨Classical.not_not.mp (by assumption), Classical.not_not.mp (by assumption)⟩ : s0.2.1 14 (cl c) 2 = 1 ∧ vcC s0 (cl c) = 3) hk)
  · have hX := hX hc
    refine ⟨[], ?_, an⟩
    repeat' (first | apply And.intro | (intro q; exact absurd q (by decide)) | (intro q; exact absurd q hc) | intro _)
    all_goals first | (with_reducible exact hC) | decide | (exact (rfl : (0 : Nat) = 0)) | (exact Nat.le_of_ble_eq_true rfl) | exact hX

