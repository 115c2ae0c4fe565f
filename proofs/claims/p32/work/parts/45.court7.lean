/-! VowCourt's public methods: causes -/
theorem w_17 : (.selects "VowCourt" ⟨"VowCourt", "causeAt", "(I)LVowCourt$Cause;"⟩ ⟨"VowCourt", "causeAt", "(I)LVowCourt$Cause;"⟩ : Cond) ∈ TB := TB_mem (List.mem_of_getElem? (i := 17) (by decide +kernel)) rfl
theorem w_550 : (.methodLink "VowCourt" 146 ⟨"VowCourt", "isDoubt", "(I)Z"⟩ : Cond) ∈ TB := TB_mem (List.mem_of_getElem? (i := 550) (by decide +kernel)) rfl
theorem w_551 : (.static ⟨"VowCourt", "isDoubt", "(I)Z"⟩ : Cond) ∈ TB := TB_mem (List.mem_of_getElem? (i := 551) (by decide +kernel)) rfl
theorem w_552 : (.code yX4_isDoubt cX4_isDoubt 1 (some .boolean) : Cond) ∈ TB := TB_mem (List.mem_of_getElem? (i := 552) (by decide +kernel)) rfl
theorem w_570 : (.fieldLink "VowCourt" 164 "VowCourt$Cause" "doubted" "I" : Cond) ∈ TB := TB_mem (List.mem_of_getElem? (i := 570) (by decide +kernel)) rfl
theorem w_572 : (.fieldLink "VowCourt" 160 "VowCourt$Cause" "status" "I" : Cond) ∈ TB := TB_mem (List.mem_of_getElem? (i := 572) (by decide +kernel)) rfl
theorem w_574 : (.fieldLink "VowCourt" 161 "VowCourt$Cause" "instance" "I" : Cond) ∈ TB := TB_mem (List.mem_of_getElem? (i := 574) (by decide +kernel)) rfl
theorem w_580 : (.fieldLink "VowCourt" 219 "VowCourt$Cause" "sentences" "[I" : Cond) ∈ TB := TB_mem (List.mem_of_getElem? (i := 580) (by decide +kernel)) rfl
theorem w_600 : (.methodLink "VowCourt" 156 ⟨"VowCourt", "causeAt", "(I)LVowCourt$Cause;"⟩ : Cond) ∈ TB := TB_mem (List.mem_of_getElem? (i := 600) (by decide +kernel)) rfl
theorem w_602 : (.instanceMethod ⟨"VowCourt", "causeAt", "(I)LVowCourt$Cause;"⟩ : Cond) ∈ TB := TB_mem (List.mem_of_getElem? (i := 602) (by decide +kernel)) rfl
theorem w_603 : (.code yX4_causeAt cX4_causeAt 2 (some (.object "VowCourt$Cause")) : Cond) ∈ TB := TB_mem (List.mem_of_getElem? (i := 603) (by decide +kernel)) rfl
theorem w_612 : (.methodLink "VowCourt" 171 ⟨"VowCourt$Cause", "provedGrounds", "()I"⟩ : Cond) ∈ TB := TB_mem (List.mem_of_getElem? (i := 612) (by decide +kernel)) rfl
theorem w_613 : (.instanceMethod ⟨"VowCourt$Cause", "provedGrounds", "()I"⟩ : Cond) ∈ TB := TB_mem (List.mem_of_getElem? (i := 613) (by decide +kernel)) rfl
theorem w_614 : (.selects "VowCourt$Cause" ⟨"VowCourt$Cause", "provedGrounds", "()I"⟩ ⟨"VowCourt$Cause", "provedGrounds", "()I"⟩ : Cond) ∈ TB := TB_mem (List.mem_of_getElem? (i := 614) (by decide +kernel)) rfl
theorem w_615 : (.code yX0_provedGrounds cX0_provedGrounds 3 (some .int) : Cond) ∈ TB := TB_mem (List.mem_of_getElem? (i := 615) (by decide +kernel)) rfl
theorem w_620 : (.methodLink "VowCourt" 177 ⟨"VowCourt$Cause", "votesCast", "()I"⟩ : Cond) ∈ TB := TB_mem (List.mem_of_getElem? (i := 620) (by decide +kernel)) rfl
theorem w_621 : (.instanceMethod ⟨"VowCourt$Cause", "votesCast", "()I"⟩ : Cond) ∈ TB := TB_mem (List.mem_of_getElem? (i := 621) (by decide +kernel)) rfl
theorem w_622 : (.selects "VowCourt$Cause" ⟨"VowCourt$Cause", "votesCast", "()I"⟩ ⟨"VowCourt$Cause", "votesCast", "()I"⟩ : Cond) ∈ TB := TB_mem (List.mem_of_getElem? (i := 622) (by decide +kernel)) rfl
theorem w_623 : (.code yX0_votesCast cX0_votesCast 3 (some .int) : Cond) ∈ TB := TB_mem (List.mem_of_getElem? (i := 623) (by decide +kernel)) rfl
theorem w_662 : (.methodLink "VowCourt" 190 ⟨"VowCourt$Cause", "reopen", "()V"⟩ : Cond) ∈ TB := TB_mem (List.mem_of_getElem? (i := 662) (by decide +kernel)) rfl
theorem CI_ct {s : Sg} {c k : Nat} {v : Int32} (hk : ¬ k = 0) (h : CI s) : CI (stS s 14 c k v) := by
  have h := of_eq_true h
  refine eq_true ⟨h.1, h.2.1, h.2.2.1, h.2.2.2.1, fun a ha => ?_, fun a ha => ?_⟩
  · rw [stS_get, if_neg (fun z => absurd z.1 (by decide)), stS_get, if_neg (fun z => absurd z.1 (by decide))]
    exact h.2.2.2.2.1 a ha
  · rw [stS_get, if_neg (fun z => hk z.2.2.symm)]
    exact h.2.2.2.2.2 a ha
theorem dX4_doubt_0 : decode cX4_doubt 0 = .ok (.aload_n 0, 1) := by decide +kernel
theorem dX4_doubt_1 : decode cX4_doubt 1 = .ok (.iload_n 1, 1) := by decide +kernel
theorem dX4_doubt_2 : decode cX4_doubt 2 = .ok (.invokevirtual 156, 3) := by decide +kernel
theorem dX4_doubt_5 : decode cX4_doubt 5 = .ok (.astore_n 3, 1) := by decide +kernel
theorem dX4_doubt_6 : decode cX4_doubt 6 = .ok (.iload_n 2, 1) := by decide +kernel
theorem dX4_doubt_7 : decode cX4_doubt 7 = .ok (.invokestatic 146, 3) := by decide +kernel
theorem dX4_doubt_10 : decode cX4_doubt 10 = .ok (.invokestatic 53, 3) := by decide +kernel
theorem dX4_doubt_13 : decode cX4_doubt 13 = .ok (.aload_n 3, 1) := by decide +kernel
theorem dX4_doubt_14 : decode cX4_doubt 14 = .ok (.getfield 160, 3) := by decide +kernel
theorem dX4_doubt_17 : decode cX4_doubt 17 = .ok (.ifCond .ne 15, 3) := by decide +kernel
theorem dX4_doubt_20 : decode cX4_doubt 20 = .ok (.aload_n 3, 1) := by decide +kernel
theorem dX4_doubt_21 : decode cX4_doubt 21 = .ok (.getfield 161, 3) := by decide +kernel
theorem dX4_doubt_24 : decode cX4_doubt 24 = .ok (.iconst 1, 1) := by decide +kernel
theorem dX4_doubt_25 : decode cX4_doubt 25 = .ok (.if_icmp .ne 7, 3) := by decide +kernel
theorem dX4_doubt_28 : decode cX4_doubt 28 = .ok (.iconst 1, 1) := by decide +kernel
theorem dX4_doubt_29 : decode cX4_doubt 29 = .ok (.goto 4, 3) := by decide +kernel
theorem dX4_doubt_32 : decode cX4_doubt 32 = .ok (.iconst 0, 1) := by decide +kernel
theorem dX4_doubt_33 : decode cX4_doubt 33 = .ok (.invokestatic 64, 3) := by decide +kernel
theorem dX4_doubt_36 : decode cX4_doubt 36 = .ok (.aload_n 3, 1) := by decide +kernel
theorem dX4_doubt_37 : decode cX4_doubt 37 = .ok (.getfield 164, 3) := by decide +kernel
theorem dX4_doubt_40 : decode cX4_doubt 40 = .ok (.istore 4, 2) := by decide +kernel
theorem dX4_doubt_42 : decode cX4_doubt 42 = .ok (.aload_n 3, 1) := by decide +kernel
theorem dX4_doubt_43 : decode cX4_doubt 43 = .ok (.iload_n 2, 1) := by decide +kernel
theorem dX4_doubt_44 : decode cX4_doubt 44 = .ok (.putfield 164, 3) := by decide +kernel
theorem dX4_doubt_47 : decode cX4_doubt 47 = .ok (.iload 4, 2) := by decide +kernel
theorem dX4_doubt_49 : decode cX4_doubt 49 = .ok (.ireturn, 1) := by decide +kernel
def tab_X4_doubt : List (Nat × Sem) := [(0, op_al 0 1), (1, op_il 1 2), (2, op_callV 6 sp_X4_causeAt 2 1 5), (5, op_as 3 6), (6, op_il 2 7), (7, op_call sp_X4_isDoubt 1 0 10), (10, op_call sp_X4_checkArgument 1 1 13), (13, op_al 3 14), (14, op_gf 2 2 17), (17, op_if (fun x => ¬ x = 0) 32 20), (20, op_al 3 21), (21, op_gf 2 3 24), (24, op_ic 1 25), (25, op_cmp (fun x y => ¬ x = y) 32 28), (28, op_ic 1 29), (29, op_go 33), (32, op_ic 0 33), (33, op_call sp_X4_checkPossible 1 1 36), (36, op_al 3 37), (37, op_gf 2 1 40), (40, op_is 4 42), (42, op_al 3 43), (43, op_il 2 44), (44, op_pf 2 1 47), (47, op_il 4 49), (49, op_iret)]
set_option maxRecDepth 20000 in
theorem tok_X4_doubt : ∀ q ∈ tab_X4_doubt, Snd RX4 cX4_doubt 5 8 3 (some .int) q.1 q.2 := by
  unfold tab_X4_doubt
  refine tcons (ok_aload_n dX4_doubt_0 rfl rfl) ?_
  refine tcons (ok_iload_n dX4_doubt_1 rfl rfl) ?_
  refine tcons (ok_invokevirtual M_X4_causeAt (C := RX4) (T := TX4) (nf := 8) rfl w_600 w_602 w_17 w_20 w_603 ⟨rfl, by decide, by decide, by decide +kernel⟩ (by decide) (by decide) dX4_doubt_2 rfl) ?_
  refine tcons (ok_astore_n dX4_doubt_5 rfl (by decide) rfl) ?_
  refine tcons (ok_iload_n dX4_doubt_6 rfl rfl) ?_
  refine tcons (ok_invokestatic M_X4_isDoubt w_550 w_551 w_20 w_552 ⟨by decide, by decide, by decide +kernel⟩ (by decide) (by decide) dX4_doubt_7 rfl) ?_
  refine tcons (ok_invokestatic M_X4_checkArgument w_217 w_218 w_20 w_219 ⟨by decide, by decide, by decide +kernel⟩ (by decide) (by decide) dX4_doubt_10 rfl) ?_
  refine tcons (ok_aload_n dX4_doubt_13 rfl rfl) ?_
  refine tcons (ok_getfield (C := RX0) (T := TX0) (n := 7) rfl in_X0 (by decide) w_572 dX4_doubt_14 rfl) ?_
  refine tcons (ok_if_ne dX4_doubt_17 rfl rfl) ?_
  refine tcons (ok_aload_n dX4_doubt_20 rfl rfl) ?_
  refine tcons (ok_getfield (C := RX0) (T := TX0) (n := 7) rfl in_X0 (by decide) w_574 dX4_doubt_21 rfl) ?_
  refine tcons (ok_iconst dX4_doubt_24 rfl rfl) ?_
  refine tcons (ok_icmp_ne dX4_doubt_25 rfl rfl) ?_
  refine tcons (ok_iconst dX4_doubt_28 rfl rfl) ?_
  refine tcons (ok_goto dX4_doubt_29 rfl) ?_
  refine tcons (ok_iconst dX4_doubt_32 rfl rfl) ?_
  refine tcons (ok_invokestatic M_X4_checkPossible w_240 w_241 w_20 w_242 ⟨by decide, by decide, by decide +kernel⟩ (by decide) (by decide) dX4_doubt_33 rfl) ?_
  refine tcons (ok_aload_n dX4_doubt_36 rfl rfl) ?_
  refine tcons (ok_getfield (C := RX0) (T := TX0) (n := 7) rfl in_X0 (by decide) w_570 dX4_doubt_37 rfl) ?_
  refine tcons (ok_istore dX4_doubt_40 (by decide) rfl) ?_
  refine tcons (ok_aload_n dX4_doubt_42 rfl rfl) ?_
  refine tcons (ok_iload_n dX4_doubt_43 rfl rfl) ?_
  refine tcons (ok_putfield (C := RX0) (T := TX0) (n := 7) tyX0 .int rfl in_X0 tyX0_ok nmX0 (by decide) rfl w_570 rfl (Or.inl rfl) dX4_doubt_44 rfl) ?_
  refine tcons (ok_iload dX4_doubt_47 rfl) ?_
  refine tcons (ok_ireturn rfl dX4_doubt_49) ?_
  exact fun _ h => nomatch h
def sp_X4_doubt : Spc := fun av s N X => match av with
  | [.inl (.inr (1, 0)), .inl (.inl c), .inl (.inl d)] => CI s ∧ chk (iC s 2 c) 1 s X (chk (1 ≤ d ∧ d ≤ 127) 2 s X (chk (s.2.1 14 (cl c) 2 = 0 ∧ s.2.1 14 (cl c) 3 = 1) 3 s X (N (some (aI (s.2.1 14 (cl c) 1))) (stS s 14 (cl c) 1 d))))
  | _ => False
set_option maxRecDepth 20000 in
set_option maxHeartbeats 2000000 in
theorem M_X4_doubt : AMet yX4_doubt cX4_doubt 5 (some .int) 8 3 sp_X4_doubt := by
  refine AMet.mk (own := RX4) (by decide) rfl [0, 1, 2, 3, 4] rfl tok_X4_doubt 200 ?_
  intro av s0 N X h
  unfold sp_X4_doubt at h
  split at h
  rotate_left
  · exact h.elim
  refine ⟨fun _ => none, ?_, fun pc P hP => nomatch hP⟩
  repeat' (first | apply And.intro | (intro q; exact absurd q (by decide)) | intro _)
  all_goals first | decide | (exact (rfl : (0 : Nat) = 0)) | (exact Nat.le_of_ble_eq_true rfl) | (exact h.1) | (exact iC_c h.1 (by assumption)) | (simp_all [-Int32.not_lt, -Int32.not_le, chk]; done) | (simp_all [-Int32.not_lt, -Int32.not_le, ← Int32.not_le, chk]; done) | (simp_all [chk]; done)
theorem dX4_publish_0 : decode cX4_publish 0 = .ok (.aload_n 0, 1) := by decide +kernel
theorem dX4_publish_1 : decode cX4_publish 1 = .ok (.iload_n 1, 1) := by decide +kernel
theorem dX4_publish_2 : decode cX4_publish 2 = .ok (.invokevirtual 156, 3) := by decide +kernel
theorem dX4_publish_5 : decode cX4_publish 5 = .ok (.astore_n 2, 1) := by decide +kernel
theorem dX4_publish_6 : decode cX4_publish 6 = .ok (.aload_n 2, 1) := by decide +kernel
theorem dX4_publish_7 : decode cX4_publish 7 = .ok (.getfield 160, 3) := by decide +kernel
theorem dX4_publish_10 : decode cX4_publish 10 = .ok (.ifCond .ne 7, 3) := by decide +kernel
theorem dX4_publish_13 : decode cX4_publish 13 = .ok (.iconst 1, 1) := by decide +kernel
theorem dX4_publish_14 : decode cX4_publish 14 = .ok (.goto 4, 3) := by decide +kernel
theorem dX4_publish_17 : decode cX4_publish 17 = .ok (.iconst 0, 1) := by decide +kernel
theorem dX4_publish_18 : decode cX4_publish 18 = .ok (.invokestatic 64, 3) := by decide +kernel
theorem dX4_publish_21 : decode cX4_publish 21 = .ok (.aload_n 2, 1) := by decide +kernel
theorem dX4_publish_22 : decode cX4_publish 22 = .ok (.iconst 1, 1) := by decide +kernel
theorem dX4_publish_23 : decode cX4_publish 23 = .ok (.putfield 160, 3) := by decide +kernel
theorem dX4_publish_26 : decode cX4_publish 26 = .ok (.aload_n 2, 1) := by decide +kernel
theorem dX4_publish_27 : decode cX4_publish 27 = .ok (.invokevirtual 171, 3) := by decide +kernel
theorem dX4_publish_30 : decode cX4_publish 30 = .ok (.ireturn, 1) := by decide +kernel
def tab_X4_publish : List (Nat × Sem) := [(0, op_al 0 1), (1, op_il 1 2), (2, op_callV 6 sp_X4_causeAt 2 1 5), (5, op_as 2 6), (6, op_al 2 7), (7, op_gf 2 2 10), (10, op_if (fun x => ¬ x = 0) 17 13), (13, op_ic 1 14), (14, op_go 18), (17, op_ic 0 18), (18, op_call sp_X4_checkPossible 1 1 21), (21, op_al 2 22), (22, op_ic 1 23), (23, op_pf 2 2 26), (26, op_al 2 27), (27, op_callV 2 sp_X0_provedGrounds 1 0 30), (30, op_iret)]
set_option maxRecDepth 20000 in
theorem tok_X4_publish : ∀ q ∈ tab_X4_publish, Snd RX4 cX4_publish 3 8 2 (some .int) q.1 q.2 := by
  unfold tab_X4_publish
  refine tcons (ok_aload_n dX4_publish_0 rfl rfl) ?_
  refine tcons (ok_iload_n dX4_publish_1 rfl rfl) ?_
  refine tcons (ok_invokevirtual M_X4_causeAt (C := RX4) (T := TX4) (nf := 8) rfl w_600 w_602 w_17 w_20 w_603 ⟨rfl, by decide, by decide, by decide +kernel⟩ (by decide) (by decide) dX4_publish_2 rfl) ?_
  refine tcons (ok_astore_n dX4_publish_5 rfl (by decide) rfl) ?_
  refine tcons (ok_aload_n dX4_publish_6 rfl rfl) ?_
  refine tcons (ok_getfield (C := RX0) (T := TX0) (n := 7) rfl in_X0 (by decide) w_572 dX4_publish_7 rfl) ?_
  refine tcons (ok_if_ne dX4_publish_10 rfl rfl) ?_
  refine tcons (ok_iconst dX4_publish_13 rfl rfl) ?_
  refine tcons (ok_goto dX4_publish_14 rfl) ?_
  refine tcons (ok_iconst dX4_publish_17 rfl rfl) ?_
  refine tcons (ok_invokestatic M_X4_checkPossible w_240 w_241 w_20 w_242 ⟨by decide, by decide, by decide +kernel⟩ (by decide) (by decide) dX4_publish_18 rfl) ?_
  refine tcons (ok_aload_n dX4_publish_21 rfl rfl) ?_
  refine tcons (ok_iconst dX4_publish_22 rfl rfl) ?_
  refine tcons (ok_putfield (C := RX0) (T := TX0) (n := 7) tyX0 .int rfl in_X0 tyX0_ok nmX0 (by decide) rfl w_572 rfl (Or.inl rfl) dX4_publish_23 rfl) ?_
  refine tcons (ok_aload_n dX4_publish_26 rfl rfl) ?_
  refine tcons (ok_invokevirtual M_X0_provedGrounds (C := RX0) (T := TX0) (nf := 7) rfl w_612 w_613 w_614 w_39 w_615 ⟨rfl, by decide, by decide, by decide +kernel⟩ (by decide) (by decide) dX4_publish_27 rfl) ?_
  refine tcons (ok_ireturn rfl dX4_publish_30) ?_
  exact fun _ h => nomatch h
def sp_X4_publish : Spc := fun av s N X => match av with
  | [.inl (.inr (1, 0)), .inl (.inl c)] => CI s ∧ chk (iC s 2 c) 1 s X (chk (s.2.1 14 (cl c) 2 = 0) 3 s X (N (some (aI (prC (stS s 14 (cl c) 2 1) (cl c)))) (stS s 14 (cl c) 2 1)))
  | _ => False
set_option maxRecDepth 20000 in
set_option maxHeartbeats 2000000 in
theorem M_X4_publish : AMet yX4_publish cX4_publish 3 (some .int) 8 2 sp_X4_publish := by
  refine AMet.mk (own := RX4) (by decide) rfl [0, 1, 2] rfl tok_X4_publish 200 ?_
  intro av s0 N X h
  unfold sp_X4_publish at h
  split at h
  rotate_left
  · exact h.elim
  refine ⟨fun _ => none, ?_, fun pc P hP => nomatch hP⟩
  repeat' (first | apply And.intro | (intro q; exact absurd q (by decide)) | intro _)
  all_goals first | decide | (exact (rfl : (0 : Nat) = 0)) | (exact Nat.le_of_ble_eq_true rfl) | (exact h.1) | (show Lv s0 14 _; exact iC_c h.1 (by assumption)) | (exact iC_c h.1 (by assumption)) | (exact h.2.1 (by assumption)) | (exact (h.2.2 (by assumption)).1 (by assumption)) | (exact (h.2.2 (by assumption)).2 (by assumption)) | (exact (h.2.2 (by assumption)).2 (Classical.not_not.mp (by assumption)))
theorem dX4_causeOf_0 : decode cX4_causeOf 0 = .ok (.aload_n 0, 1) := by decide +kernel
theorem dX4_causeOf_1 : decode cX4_causeOf 1 = .ok (.iload_n 1, 1) := by decide +kernel
theorem dX4_causeOf_2 : decode cX4_causeOf 2 = .ok (.invokevirtual 156, 3) := by decide +kernel
theorem dX4_causeOf_5 : decode cX4_causeOf 5 = .ok (.astore_n 3, 1) := by decide +kernel
theorem dX4_causeOf_6 : decode cX4_causeOf 6 = .ok (.iload_n 2, 1) := by decide +kernel
theorem dX4_causeOf_7 : decode cX4_causeOf 7 = .ok (.ifCond .lt 13, 3) := by decide +kernel
theorem dX4_causeOf_10 : decode cX4_causeOf 10 = .ok (.iload_n 2, 1) := by decide +kernel
theorem dX4_causeOf_11 : decode cX4_causeOf 11 = .ok (.bipush 7, 2) := by decide +kernel
theorem dX4_causeOf_13 : decode cX4_causeOf 13 = .ok (.if_icmp .ge 7, 3) := by decide +kernel
theorem dX4_causeOf_16 : decode cX4_causeOf 16 = .ok (.iconst 1, 1) := by decide +kernel
theorem dX4_causeOf_17 : decode cX4_causeOf 17 = .ok (.goto 4, 3) := by decide +kernel
theorem dX4_causeOf_20 : decode cX4_causeOf 20 = .ok (.iconst 0, 1) := by decide +kernel
theorem dX4_causeOf_21 : decode cX4_causeOf 21 = .ok (.invokestatic 53, 3) := by decide +kernel
theorem dX4_causeOf_24 : decode cX4_causeOf 24 = .ok (.iload_n 2, 1) := by decide +kernel
theorem dX4_causeOf_25 : decode cX4_causeOf 25 = .ok (.tableswitch 63 0 6 #[43, 48, 53, 63, 63, 63, 58], 43) := by decide +kernel
theorem dX4_causeOf_68 : decode cX4_causeOf 68 = .ok (.aload_n 3, 1) := by decide +kernel
theorem dX4_causeOf_69 : decode cX4_causeOf 69 = .ok (.getfield 160, 3) := by decide +kernel
theorem dX4_causeOf_72 : decode cX4_causeOf 72 = .ok (.ireturn, 1) := by decide +kernel
theorem dX4_causeOf_73 : decode cX4_causeOf 73 = .ok (.aload_n 3, 1) := by decide +kernel
theorem dX4_causeOf_74 : decode cX4_causeOf 74 = .ok (.getfield 161, 3) := by decide +kernel
theorem dX4_causeOf_77 : decode cX4_causeOf 77 = .ok (.ireturn, 1) := by decide +kernel
theorem dX4_causeOf_78 : decode cX4_causeOf 78 = .ok (.aload_n 3, 1) := by decide +kernel
theorem dX4_causeOf_79 : decode cX4_causeOf 79 = .ok (.getfield 164, 3) := by decide +kernel
theorem dX4_causeOf_82 : decode cX4_causeOf 82 = .ok (.ireturn, 1) := by decide +kernel
theorem dX4_causeOf_83 : decode cX4_causeOf 83 = .ok (.aload_n 3, 1) := by decide +kernel
theorem dX4_causeOf_84 : decode cX4_causeOf 84 = .ok (.invokevirtual 177, 3) := by decide +kernel
theorem dX4_causeOf_87 : decode cX4_causeOf 87 = .ok (.ireturn, 1) := by decide +kernel
theorem dX4_causeOf_88 : decode cX4_causeOf 88 = .ok (.aload_n 3, 1) := by decide +kernel
theorem dX4_causeOf_89 : decode cX4_causeOf 89 = .ok (.getfield 219, 3) := by decide +kernel
theorem dX4_causeOf_92 : decode cX4_causeOf 92 = .ok (.iload_n 2, 1) := by decide +kernel
theorem dX4_causeOf_93 : decode cX4_causeOf 93 = .ok (.iconst 3, 1) := by decide +kernel
theorem dX4_causeOf_94 : decode cX4_causeOf 94 = .ok (.isub, 1) := by decide +kernel
theorem dX4_causeOf_95 : decode cX4_causeOf 95 = .ok (.iaload, 1) := by decide +kernel
theorem dX4_causeOf_96 : decode cX4_causeOf 96 = .ok (.ireturn, 1) := by decide +kernel
def tab_X4_causeOf : List (Nat × Sem) := [(0, op_al 0 1), (1, op_il 1 2), (2, op_callV 6 sp_X4_causeAt 2 1 5), (5, op_as 3 6), (6, op_il 2 7), (7, op_if (fun x => x < 0) 20 10), (10, op_il 2 11), (11, op_ic 7 13), (13, op_cmp (fun x y => y ≤ x) 20 16), (16, op_ic 1 17), (17, op_go 21), (20, op_ic 0 21), (21, op_call sp_X4_checkArgument 1 1 24), (24, op_il 2 25), (25, op_sw [(0, 68), (1, 73), (2, 78), (3, 88), (4, 88), (5, 88), (6, 83)] 88), (68, op_al 3 69), (69, op_gf 2 2 72), (72, op_iret), (73, op_al 3 74), (74, op_gf 2 3 77), (77, op_iret), (78, op_al 3 79), (79, op_gf 2 1 82), (82, op_iret), (83, op_al 3 84), (84, op_callV 2 sp_X0_votesCast 1 0 87), (87, op_iret), (88, op_al 3 89), (89, op_gf 2 6 92), (92, op_il 2 93), (93, op_ic 3 94), (94, op_bin (fun x y => x - y) 95), (95, op_iald 96), (96, op_iret)]
set_option maxRecDepth 20000 in
theorem tok_X4_causeOf : ∀ q ∈ tab_X4_causeOf, Snd RX4 cX4_causeOf 4 8 2 (some .int) q.1 q.2 := by
  unfold tab_X4_causeOf
  refine tcons (ok_aload_n dX4_causeOf_0 rfl rfl) ?_
  refine tcons (ok_iload_n dX4_causeOf_1 rfl rfl) ?_
  refine tcons (ok_invokevirtual M_X4_causeAt (C := RX4) (T := TX4) (nf := 8) rfl w_600 w_602 w_17 w_20 w_603 ⟨rfl, by decide, by decide, by decide +kernel⟩ (by decide) (by decide) dX4_causeOf_2 rfl) ?_
  refine tcons (ok_astore_n dX4_causeOf_5 rfl (by decide) rfl) ?_
  refine tcons (ok_iload_n dX4_causeOf_6 rfl rfl) ?_
  refine tcons (ok_if_lt dX4_causeOf_7 rfl rfl) ?_
  refine tcons (ok_iload_n dX4_causeOf_10 rfl rfl) ?_
  refine tcons (ok_bipush dX4_causeOf_11 rfl rfl) ?_
  refine tcons (ok_icmp_ge dX4_causeOf_13 rfl rfl) ?_
  refine tcons (ok_iconst dX4_causeOf_16 rfl rfl) ?_
  refine tcons (ok_goto dX4_causeOf_17 rfl) ?_
  refine tcons (ok_iconst dX4_causeOf_20 rfl rfl) ?_
  refine tcons (ok_invokestatic M_X4_checkArgument w_217 w_218 w_20 w_219 ⟨by decide, by decide, by decide +kernel⟩ (by decide) (by decide) dX4_causeOf_21 rfl) ?_
  refine tcons (ok_iload_n dX4_causeOf_24 rfl rfl) ?_
  refine tcons (ok_table rfl rfl rfl rfl dX4_causeOf_25) ?_
  refine tcons (ok_aload_n dX4_causeOf_68 rfl rfl) ?_
  refine tcons (ok_getfield (C := RX0) (T := TX0) (n := 7) rfl in_X0 (by decide) w_572 dX4_causeOf_69 rfl) ?_
  refine tcons (ok_ireturn rfl dX4_causeOf_72) ?_
  refine tcons (ok_aload_n dX4_causeOf_73 rfl rfl) ?_
  refine tcons (ok_getfield (C := RX0) (T := TX0) (n := 7) rfl in_X0 (by decide) w_574 dX4_causeOf_74 rfl) ?_
  refine tcons (ok_ireturn rfl dX4_causeOf_77) ?_
  refine tcons (ok_aload_n dX4_causeOf_78 rfl rfl) ?_
  refine tcons (ok_getfield (C := RX0) (T := TX0) (n := 7) rfl in_X0 (by decide) w_570 dX4_causeOf_79 rfl) ?_
  refine tcons (ok_ireturn rfl dX4_causeOf_82) ?_
  refine tcons (ok_aload_n dX4_causeOf_83 rfl rfl) ?_
  refine tcons (ok_invokevirtual M_X0_votesCast (C := RX0) (T := TX0) (nf := 7) rfl w_620 w_621 w_622 w_39 w_623 ⟨rfl, by decide, by decide, by decide +kernel⟩ (by decide) (by decide) dX4_causeOf_84 rfl) ?_
  refine tcons (ok_ireturn rfl dX4_causeOf_87) ?_
  refine tcons (ok_aload_n dX4_causeOf_88 rfl rfl) ?_
  refine tcons (ok_getfield (C := RX0) (T := TX0) (n := 7) rfl in_X0 (by decide) w_580 dX4_causeOf_89 rfl) ?_
  refine tcons (ok_iload_n dX4_causeOf_92 rfl rfl) ?_
  refine tcons (ok_iconst dX4_causeOf_93 rfl rfl) ?_
  refine tcons (ok_isub dX4_causeOf_94 rfl) ?_
  refine tcons (ok_iaload dX4_causeOf_95 rfl) ?_
  refine tcons (ok_ireturn rfl dX4_causeOf_96) ?_
  exact fun _ h => nomatch h
def ca7 (s : Sg) (c : Nat) (k : Int32) (N : Nt) : Prop := (k = 0 → N (some (aI (s.2.1 14 c 2))) s) ∧ (k = 1 → N (some (aI (s.2.1 14 c 3))) s) ∧ (k = 2 → N (some (aI (s.2.1 14 c 1))) s) ∧ (k = 6 → N (some (aI (vcC s c))) s) ∧ (¬ k = 0 → ¬ k = 1 → ¬ k = 2 → ¬ k = 6 → N (some (aI (s.2.1 17 c (cl (k - 3))))) s)
theorem ca_Ib {k : Int32} (h0 : 0 ≤ k) (h : k < 7) (n0 : ¬ k = 0) (n1 : ¬ k = 1) (n2 : ¬ k = 2) (n6 : ¬ k = 6) : Ib (k - 3) 3 := by
  have h1 : k = 3 ∨ k = 4 ∨ k = 5 := by
    obtain ⟨i, hi, rfl⟩ := inC_nI (n := 7) h0 h (by decide)
    have : i = 0 ∨ i = 1 ∨ i = 2 ∨ i = 3 ∨ i = 4 ∨ i = 5 ∨ i = 6 := by omega
    rcases this with rfl | rfl | rfl | rfl | rfl | rfl | rfl
    · exact absurd rfl n0
    · exact absurd rfl n1
    · exact absurd rfl n2
    · exact Or.inl rfl
    · exact Or.inr (Or.inl rfl)
    · exact Or.inr (Or.inr rfl)
    · exact absurd rfl n6
  rcases h1 with rfl | rfl | rfl
  · exact Ib_lit (by decide)
  · exact Ib_lit (by decide)
  · exact Ib_lit (by decide)
def sp_X4_causeOf : Spc := fun av s N X => match av with
  | [.inl (.inr (1, 0)), .inl (.inl c), .inl (.inl k)] => CI s ∧ chk (iC s 2 c) 1 s X (chk (0 ≤ k ∧ k < 7) 2 s X (ca7 s (cl c) k N))
  | _ => False
set_option maxRecDepth 20000 in
set_option maxHeartbeats 2000000 in
theorem M_X4_causeOf : AMet yX4_causeOf cX4_causeOf 4 (some .int) 8 2 sp_X4_causeOf := by
  refine AMet.mc (own := RX4) (by decide) rfl [0, 1, 2, 3] rfl tok_X4_causeOf 200 ?_
  intro av s0 N X h
  unfold sp_X4_causeOf at h
  split at h
  rotate_left
  · exact h.elim
  rename_i c k
  obtain ⟨hC, hX, h⟩ := h
  by_cases hc : iC s0 2 c
  · obtain ⟨hX2, h⟩ := h hc
    have lc := iC_c hC hc
    by_cases hk : 0 ≤ k ∧ k < 7
    · obtain ⟨h0, h1, h2, h3, h4⟩ := h hk
      have k0 : ¬ k < 0 := Int32.not_lt.mpr hk.1
      have k7 : ¬ 7 ≤ k := Int32.not_le.mpr hk.2
      refine ⟨[], ?_, an⟩
      repeat' (first | apply And.intro | (intro q; exact absurd q (by decide)) | (intro q; exact absurd hc q) | (intro q; exact absurd q k0) | (intro q; exact absurd q k7) | intro _)
      all_goals first | (with_reducible exact hC) | decide | (exact (rfl : (0 : Nat) = 0)) | (exact Nat.le_of_ble_eq_true rfl) | (exact lc) | (exact h0 (by assumption)) | (exact h1 (by assumption)) | (exact h2 (by assumption)) | (exact h3 (by assumption)) |
        (exact ca_Ib hk.1 hk.2 (by assumption) (by assumption) (by assumption) (by assumption)) | (exact h4 (by assumption) (by assumption) (by assumption) (by assumption)) | skip
      all_goals first
        | (exfalso
           have hIb := ca_Ib hk.1 hk.2 (by assumption) (by assumption) (by assumption) (by assumption)
           have h7 : k = 3 ∨ k = 4 ∨ k = 5 ∨ k = 6 := Or.inr (Or.inr (Or.inr rfl))
           simp_all; done)
        | (subst_vars; exact Ib_lit (by decide))
        | (subst_vars; exact h4 (by decide) (by decide) (by decide) (by decide))
    · have hX2 := hX2 hk
      refine ⟨[], ?_, an⟩
      repeat' (first | apply And.intro | (intro q; exact absurd q (by decide)) | (intro q; exact absurd hc q) | intro _)
      all_goals first | (with_reducible exact hC) | decide | (exact (rfl : (0 : Nat) = 0)) | (exact Nat.le_of_ble_eq_true rfl) | (exact lc) | (exact hX2) | (exact absurd (⟨Int32.not_lt.mp (by assumption), Int32.not_le.mp (by assumption)⟩ : 0 ≤ k ∧ k < 7) hk)
  · have hX := hX hc
    refine ⟨[], ?_, an⟩
    repeat' (first | apply And.intro | (intro q; exact absurd q (by decide)) | (intro q; exact absurd q hc) | intro _)
    all_goals first | (with_reducible exact hC) | decide | (exact (rfl : (0 : Nat) = 0)) | (exact Nat.le_of_ble_eq_true rfl) | exact hX
theorem dX4_appeal_0 : decode cX4_appeal 0 = .ok (.aload_n 0, 1) := by decide +kernel
theorem dX4_appeal_1 : decode cX4_appeal 1 = .ok (.iload_n 1, 1) := by decide +kernel
theorem dX4_appeal_2 : decode cX4_appeal 2 = .ok (.invokevirtual 156, 3) := by decide +kernel
theorem dX4_appeal_5 : decode cX4_appeal 5 = .ok (.astore_n 2, 1) := by decide +kernel
theorem dX4_appeal_6 : decode cX4_appeal 6 = .ok (.aload_n 2, 1) := by decide +kernel
theorem dX4_appeal_7 : decode cX4_appeal 7 = .ok (.getfield 160, 3) := by decide +kernel
theorem dX4_appeal_10 : decode cX4_appeal 10 = .ok (.iconst 3, 1) := by decide +kernel
theorem dX4_appeal_11 : decode cX4_appeal 11 = .ok (.if_icmp .ne 15, 3) := by decide +kernel
theorem dX4_appeal_14 : decode cX4_appeal 14 = .ok (.aload_n 2, 1) := by decide +kernel
theorem dX4_appeal_15 : decode cX4_appeal 15 = .ok (.getfield 161, 3) := by decide +kernel
theorem dX4_appeal_18 : decode cX4_appeal 18 = .ok (.iconst 1, 1) := by decide +kernel
theorem dX4_appeal_19 : decode cX4_appeal 19 = .ok (.if_icmp .ne 7, 3) := by decide +kernel
theorem dX4_appeal_22 : decode cX4_appeal 22 = .ok (.iconst 1, 1) := by decide +kernel
theorem dX4_appeal_23 : decode cX4_appeal 23 = .ok (.goto 4, 3) := by decide +kernel
theorem dX4_appeal_26 : decode cX4_appeal 26 = .ok (.iconst 0, 1) := by decide +kernel
theorem dX4_appeal_27 : decode cX4_appeal 27 = .ok (.invokestatic 64, 3) := by decide +kernel
theorem dX4_appeal_30 : decode cX4_appeal 30 = .ok (.aload_n 0, 1) := by decide +kernel
theorem dX4_appeal_31 : decode cX4_appeal 31 = .ok (.aload_n 2, 1) := by decide +kernel
theorem dX4_appeal_32 : decode cX4_appeal 32 = .ok (.getfield 187, 3) := by decide +kernel
theorem dX4_appeal_35 : decode cX4_appeal 35 = .ok (.invokevirtual 143, 3) := by decide +kernel
theorem dX4_appeal_38 : decode cX4_appeal 38 = .ok (.invokestatic 64, 3) := by decide +kernel
theorem dX4_appeal_41 : decode cX4_appeal 41 = .ok (.aload_n 2, 1) := by decide +kernel
theorem dX4_appeal_42 : decode cX4_appeal 42 = .ok (.invokevirtual 190, 3) := by decide +kernel
theorem dX4_appeal_45 : decode cX4_appeal 45 = .ok (.return_, 1) := by decide +kernel
def tab_X4_appeal : List (Nat × Sem) := [(0, op_al 0 1), (1, op_il 1 2), (2, op_callV 6 sp_X4_causeAt 2 1 5), (5, op_as 2 6), (6, op_al 2 7), (7, op_gf 2 2 10), (10, op_ic 3 11), (11, op_cmp (fun x y => ¬ x = y) 26 14), (14, op_al 2 15), (15, op_gf 2 3 18), (18, op_ic 1 19), (19, op_cmp (fun x y => ¬ x = y) 26 22), (22, op_ic 1 23), (23, op_go 27), (26, op_ic 0 27), (27, op_call sp_X4_checkPossible 1 1 30), (30, op_al 0 31), (31, op_al 2 32), (32, op_gf 2 0 35), (35, op_callV 6 sp_X4_mayBeJudged 2 1 38), (38, op_call sp_X4_checkPossible 1 1 41), (41, op_al 2 42), (42, op_callV 2 sp_X0_reopen 1 0 45), (45, op_vret)]
set_option maxRecDepth 20000 in
theorem tok_X4_appeal : ∀ q ∈ tab_X4_appeal, Snd RX4 cX4_appeal 3 9 4 none q.1 q.2 := by
  unfold tab_X4_appeal
  refine tcons (ok_aload_n dX4_appeal_0 rfl rfl) ?_
  refine tcons (ok_iload_n dX4_appeal_1 rfl rfl) ?_
  refine tcons (ok_invokevirtual M_X4_causeAt (C := RX4) (T := TX4) (nf := 8) rfl w_600 w_602 w_17 w_20 w_603 ⟨rfl, by decide, by decide, by decide +kernel⟩ (by decide) (by decide) dX4_appeal_2 rfl) ?_
  refine tcons (ok_astore_n dX4_appeal_5 rfl (by decide) rfl) ?_
  refine tcons (ok_aload_n dX4_appeal_6 rfl rfl) ?_
  refine tcons (ok_getfield (C := RX0) (T := TX0) (n := 7) rfl in_X0 (by decide) w_572 dX4_appeal_7 rfl) ?_
  refine tcons (ok_iconst dX4_appeal_10 rfl rfl) ?_
  refine tcons (ok_icmp_ne dX4_appeal_11 rfl rfl) ?_
  refine tcons (ok_aload_n dX4_appeal_14 rfl rfl) ?_
  refine tcons (ok_getfield (C := RX0) (T := TX0) (n := 7) rfl in_X0 (by decide) w_574 dX4_appeal_15 rfl) ?_
  refine tcons (ok_iconst dX4_appeal_18 rfl rfl) ?_
  refine tcons (ok_icmp_ne dX4_appeal_19 rfl rfl) ?_
  refine tcons (ok_iconst dX4_appeal_22 rfl rfl) ?_
  refine tcons (ok_goto dX4_appeal_23 rfl) ?_
  refine tcons (ok_iconst dX4_appeal_26 rfl rfl) ?_
  refine tcons (ok_invokestatic M_X4_checkPossible w_240 w_241 w_20 w_242 ⟨by decide, by decide, by decide +kernel⟩ (by decide) (by decide) dX4_appeal_27 rfl) ?_
  refine tcons (ok_aload_n dX4_appeal_30 rfl rfl) ?_
  refine tcons (ok_aload_n dX4_appeal_31 rfl rfl) ?_
  refine tcons (ok_getfield (C := RX0) (T := TX0) (n := 7) rfl in_X0 (by decide) w_568 dX4_appeal_32 rfl) ?_
  refine tcons (ok_invokevirtual M_X4_mayBeJudged (C := RX4) (T := TX4) (nf := 8) rfl w_542 w_544 w_14 w_20 w_545 ⟨rfl, by decide, by decide, by decide +kernel⟩ (by decide) (by decide) dX4_appeal_35 rfl) ?_
  refine tcons (ok_invokestatic M_X4_checkPossible w_240 w_241 w_20 w_242 ⟨by decide, by decide, by decide +kernel⟩ (by decide) (by decide) dX4_appeal_38 rfl) ?_
  refine tcons (ok_aload_n dX4_appeal_41 rfl rfl) ?_
  refine tcons (ok_invokevirtual M_X0_reopen (C := RX0) (T := TX0) (nf := 7) rfl w_662 w_641 w_642 w_39 w_643 ⟨rfl, by decide, by decide, by decide +kernel⟩ (by decide) (by decide) dX4_appeal_42 rfl) ?_
  refine tcons (ok_vreturn rfl dX4_appeal_45) ?_
  exact fun _ h => nomatch h
def sp_X4_appeal : Spc := fun av s N X => match av with
  | [.inl (.inr (1, 0)), .inl (.inl c)] => CI s ∧ chk (iC s 2 c) 1 s X (chk (s.2.1 14 (cl c) 2 = 3 ∧ s.2.1 14 (cl c) 3 = 1) 3 s X (chk (mbj s (s.2.1 14 (cl c) 0)) 3 s X (N none (reoC s (cl c)))))
  | _ => False
set_option maxRecDepth 20000 in
set_option maxHeartbeats 2000000 in
theorem M_X4_appeal : AMet yX4_appeal cX4_appeal 3 none 9 4 sp_X4_appeal := by
  refine AMet.mk (own := RX4) (by decide) rfl [0, 1, 2] rfl tok_X4_appeal 200 ?_
  intro av s0 N X h
  unfold sp_X4_appeal at h
  split at h
  rotate_left
  · exact h.elim
  refine ⟨fun _ => none, ?_, fun pc P hP => nomatch hP⟩
  repeat' (first | apply And.intro | (intro q; exact absurd q (by decide)) | intro _)
  all_goals first | decide | (exact (rfl : (0 : Nat) = 0)) | (exact Nat.le_of_ble_eq_true rfl) | (exact h.1) | (exact iC_c h.1 (by assumption)) | (exact CI_of h.1 (iC_c h.1 (by assumption))) | (simp_all [-Int32.not_lt, -Int32.not_le, chk]; done) | (simp_all [-Int32.not_lt, -Int32.not_le, ← Int32.not_le, chk]; done) | (simp_all [chk]; done)

