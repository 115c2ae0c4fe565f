/-! VowCourt's public methods: dispensations -/
theorem w_7 : (.selects "VowCourt" ⟨"VowCourt", "lastingHindrances", "(II)I"⟩ ⟨"VowCourt", "lastingHindrances", "(II)I"⟩ : Cond) ∈ TB := TB_mem (List.mem_of_getElem? (i := 7) (by decide +kernel)) rfl
theorem w_9 : (.selects "VowCourt" ⟨"VowCourt", "canBeDispensed", "(III)Z"⟩ ⟨"VowCourt", "canBeDispensed", "(III)Z"⟩ : Cond) ∈ TB := TB_mem (List.mem_of_getElem? (i := 9) (by decide +kernel)) rfl
theorem w_417 : (.methodLink "VowCourt" 104 ⟨"VowCourt", "lastingHindrances", "(II)I"⟩ : Cond) ∈ TB := TB_mem (List.mem_of_getElem? (i := 417) (by decide +kernel)) rfl
theorem w_419 : (.instanceMethod ⟨"VowCourt", "lastingHindrances", "(II)I"⟩ : Cond) ∈ TB := TB_mem (List.mem_of_getElem? (i := 419) (by decide +kernel)) rfl
theorem w_420 : (.code yX4_lastingHindrances cX4_lastingHindrances 4 (some .int) : Cond) ∈ TB := TB_mem (List.mem_of_getElem? (i := 420) (by decide +kernel)) rfl
theorem w_435 : (.methodLink "VowCourt" 108 ⟨"VowCourt", "canBeDispensed", "(III)Z"⟩ : Cond) ∈ TB := TB_mem (List.mem_of_getElem? (i := 435) (by decide +kernel)) rfl
theorem w_437 : (.instanceMethod ⟨"VowCourt", "canBeDispensed", "(III)Z"⟩ : Cond) ∈ TB := TB_mem (List.mem_of_getElem? (i := 437) (by decide +kernel)) rfl
theorem w_438 : (.code yX4_canBeDispensed cX4_canBeDispensed 4 (some .boolean) : Cond) ∈ TB := TB_mem (List.mem_of_getElem? (i := 438) (by decide +kernel)) rfl
def dsS (s : Sg) (p q k : Int32) : Sg := stS (stS s 8 (cl p) (cl q) (s.2.1 8 (cl p) (cl q) ||| k)) 8 (cl q) (cl p) ((stS s 8 (cl p) (cl q) (s.2.1 8 (cl p) (cl q) ||| k)).2.1 8 (cl q) (cl p) ||| k)
theorem dX4_dispense_0 : decode cX4_dispense 0 = .ok (.aload_n 0, 1) := by decide +kernel
theorem dX4_dispense_1 : decode cX4_dispense 1 = .ok (.iload_n 1, 1) := by decide +kernel
theorem dX4_dispense_2 : decode cX4_dispense 2 = .ok (.invokevirtual 45, 3) := by decide +kernel
theorem dX4_dispense_5 : decode cX4_dispense 5 = .ok (.ifCond .eq 15, 3) := by decide +kernel
theorem dX4_dispense_8 : decode cX4_dispense 8 = .ok (.aload_n 0, 1) := by decide +kernel
theorem dX4_dispense_9 : decode cX4_dispense 9 = .ok (.iload_n 2, 1) := by decide +kernel
theorem dX4_dispense_10 : decode cX4_dispense 10 = .ok (.invokevirtual 45, 3) := by decide +kernel
theorem dX4_dispense_13 : decode cX4_dispense 13 = .ok (.ifCond .eq 7, 3) := by decide +kernel
theorem dX4_dispense_16 : decode cX4_dispense 16 = .ok (.iconst 1, 1) := by decide +kernel
theorem dX4_dispense_17 : decode cX4_dispense 17 = .ok (.goto 4, 3) := by decide +kernel
theorem dX4_dispense_20 : decode cX4_dispense 20 = .ok (.iconst 0, 1) := by decide +kernel
theorem dX4_dispense_21 : decode cX4_dispense 21 = .ok (.invokestatic 49, 3) := by decide +kernel
theorem dX4_dispense_24 : decode cX4_dispense 24 = .ok (.iload_n 1, 1) := by decide +kernel
theorem dX4_dispense_25 : decode cX4_dispense 25 = .ok (.iload_n 2, 1) := by decide +kernel
theorem dX4_dispense_26 : decode cX4_dispense 26 = .ok (.if_icmp .eq 23, 3) := by decide +kernel
theorem dX4_dispense_29 : decode cX4_dispense 29 = .ok (.iload_n 3, 1) := by decide +kernel
theorem dX4_dispense_30 : decode cX4_dispense 30 = .ok (.iconst 1, 1) := by decide +kernel
theorem dX4_dispense_31 : decode cX4_dispense 31 = .ok (.if_icmp .eq 14, 3) := by decide +kernel
theorem dX4_dispense_34 : decode cX4_dispense 34 = .ok (.iload_n 3, 1) := by decide +kernel
theorem dX4_dispense_35 : decode cX4_dispense 35 = .ok (.iconst 2, 1) := by decide +kernel
theorem dX4_dispense_36 : decode cX4_dispense 36 = .ok (.if_icmp .eq 9, 3) := by decide +kernel
theorem dX4_dispense_39 : decode cX4_dispense 39 = .ok (.iload_n 3, 1) := by decide +kernel
theorem dX4_dispense_40 : decode cX4_dispense 40 = .ok (.bipush 8, 2) := by decide +kernel
theorem dX4_dispense_42 : decode cX4_dispense 42 = .ok (.if_icmp .ne 7, 3) := by decide +kernel
theorem dX4_dispense_45 : decode cX4_dispense 45 = .ok (.iconst 1, 1) := by decide +kernel
theorem dX4_dispense_46 : decode cX4_dispense 46 = .ok (.goto 4, 3) := by decide +kernel
theorem dX4_dispense_49 : decode cX4_dispense 49 = .ok (.iconst 0, 1) := by decide +kernel
theorem dX4_dispense_50 : decode cX4_dispense 50 = .ok (.invokestatic 53, 3) := by decide +kernel
theorem dX4_dispense_53 : decode cX4_dispense 53 = .ok (.aload_n 0, 1) := by decide +kernel
theorem dX4_dispense_54 : decode cX4_dispense 54 = .ok (.iload_n 1, 1) := by decide +kernel
theorem dX4_dispense_55 : decode cX4_dispense 55 = .ok (.iload_n 2, 1) := by decide +kernel
theorem dX4_dispense_56 : decode cX4_dispense 56 = .ok (.invokevirtual 104, 3) := by decide +kernel
theorem dX4_dispense_59 : decode cX4_dispense 59 = .ok (.iload_n 3, 1) := by decide +kernel
theorem dX4_dispense_60 : decode cX4_dispense 60 = .ok (.iand, 1) := by decide +kernel
theorem dX4_dispense_61 : decode cX4_dispense 61 = .ok (.ifCond .eq 7, 3) := by decide +kernel
theorem dX4_dispense_64 : decode cX4_dispense 64 = .ok (.iconst 1, 1) := by decide +kernel
theorem dX4_dispense_65 : decode cX4_dispense 65 = .ok (.goto 4, 3) := by decide +kernel
theorem dX4_dispense_68 : decode cX4_dispense 68 = .ok (.iconst 0, 1) := by decide +kernel
theorem dX4_dispense_69 : decode cX4_dispense 69 = .ok (.invokestatic 64, 3) := by decide +kernel
theorem dX4_dispense_72 : decode cX4_dispense 72 = .ok (.aload_n 0, 1) := by decide +kernel
theorem dX4_dispense_73 : decode cX4_dispense 73 = .ok (.iload_n 1, 1) := by decide +kernel
theorem dX4_dispense_74 : decode cX4_dispense 74 = .ok (.iload_n 2, 1) := by decide +kernel
theorem dX4_dispense_75 : decode cX4_dispense 75 = .ok (.iload_n 3, 1) := by decide +kernel
theorem dX4_dispense_76 : decode cX4_dispense 76 = .ok (.invokevirtual 108, 3) := by decide +kernel
theorem dX4_dispense_79 : decode cX4_dispense 79 = .ok (.invokestatic 64, 3) := by decide +kernel
theorem dX4_dispense_82 : decode cX4_dispense 82 = .ok (.aload_n 0, 1) := by decide +kernel
theorem dX4_dispense_83 : decode cX4_dispense 83 = .ok (.getfield 31, 3) := by decide +kernel
theorem dX4_dispense_86 : decode cX4_dispense 86 = .ok (.iload_n 1, 1) := by decide +kernel
theorem dX4_dispense_87 : decode cX4_dispense 87 = .ok (.aaload, 1) := by decide +kernel
theorem dX4_dispense_88 : decode cX4_dispense 88 = .ok (.iload_n 2, 1) := by decide +kernel
theorem dX4_dispense_89 : decode cX4_dispense 89 = .ok (.dup2, 1) := by decide +kernel
theorem dX4_dispense_90 : decode cX4_dispense 90 = .ok (.iaload, 1) := by decide +kernel
theorem dX4_dispense_91 : decode cX4_dispense 91 = .ok (.iload_n 3, 1) := by decide +kernel
theorem dX4_dispense_92 : decode cX4_dispense 92 = .ok (.ior, 1) := by decide +kernel
theorem dX4_dispense_93 : decode cX4_dispense 93 = .ok (.iastore, 1) := by decide +kernel
theorem dX4_dispense_94 : decode cX4_dispense 94 = .ok (.aload_n 0, 1) := by decide +kernel
theorem dX4_dispense_95 : decode cX4_dispense 95 = .ok (.getfield 31, 3) := by decide +kernel
theorem dX4_dispense_98 : decode cX4_dispense 98 = .ok (.iload_n 2, 1) := by decide +kernel
theorem dX4_dispense_99 : decode cX4_dispense 99 = .ok (.aaload, 1) := by decide +kernel
theorem dX4_dispense_100 : decode cX4_dispense 100 = .ok (.iload_n 1, 1) := by decide +kernel
theorem dX4_dispense_101 : decode cX4_dispense 101 = .ok (.dup2, 1) := by decide +kernel
theorem dX4_dispense_102 : decode cX4_dispense 102 = .ok (.iaload, 1) := by decide +kernel
theorem dX4_dispense_103 : decode cX4_dispense 103 = .ok (.iload_n 3, 1) := by decide +kernel
theorem dX4_dispense_104 : decode cX4_dispense 104 = .ok (.ior, 1) := by decide +kernel
theorem dX4_dispense_105 : decode cX4_dispense 105 = .ok (.iastore, 1) := by decide +kernel
theorem dX4_dispense_106 : decode cX4_dispense 106 = .ok (.return_, 1) := by decide +kernel
def tab_X4_dispense : List (Nat × Sem) := [(0, op_al 0 1), (1, op_il 1 2), (2, op_callV 6 sp_X4_isPerson 2 0 5), (5, op_if (fun x => x = 0) 20 8), (8, op_al 0 9), (9, op_il 2 10), (10, op_callV 6 sp_X4_isPerson 2 0 13), (13, op_if (fun x => x = 0) 20 16), (16, op_ic 1 17), (17, op_go 21), (20, op_ic 0 21), (21, op_call sp_X4_checkIndex 1 1 24), (24, op_il 1 25), (25, op_il 2 26), (26, op_cmp (fun x y => x = y) 49 29), (29, op_il 3 30), (30, op_ic 1 31), (31, op_cmp (fun x y => x = y) 45 34), (34, op_il 3 35), (35, op_ic 2 36), (36, op_cmp (fun x y => x = y) 45 39), (39, op_il 3 40), (40, op_ic 8 42), (42, op_cmp (fun x y => ¬ x = y) 49 45), (45, op_ic 1 46), (46, op_go 50), (49, op_ic 0 50), (50, op_call sp_X4_checkArgument 1 1 53), (53, op_al 0 54), (54, op_il 1 55), (55, op_il 2 56), (56, op_callV 6 sp_X4_lastingHindrances 3 4 59), (59, op_il 3 60), (60, op_bin (fun x y => x &&& y) 61), (61, op_if (fun x => x = 0) 68 64), (64, op_ic 1 65), (65, op_go 69), (68, op_ic 0 69), (69, op_call sp_X4_checkPossible 1 1 72), (72, op_al 0 73), (73, op_il 1 74), (74, op_il 2 75), (75, op_il 3 76), (76, op_callV 6 sp_X4_canBeDispensed 4 2 79), (79, op_call sp_X4_checkPossible 1 1 82), (82, op_al 0 83), (83, op_gf 6 4 86), (86, op_il 1 87), (87, op_aald 88), (88, op_il 2 89), (89, op_dup2 90), (90, op_iald 91), (91, op_il 3 92), (92, op_bin (fun x y => x ||| y) 93), (93, op_iast 94), (94, op_al 0 95), (95, op_gf 6 4 98), (98, op_il 2 99), (99, op_aald 100), (100, op_il 1 101), (101, op_dup2 102), (102, op_iald 103), (103, op_il 3 104), (104, op_bin (fun x y => x ||| y) 105), (105, op_iast 106), (106, op_vret)]
set_option maxRecDepth 20000 in
theorem tok_X4_dispense : ∀ q ∈ tab_X4_dispense, Snd RX4 cX4_dispense 4 10 10 none q.1 q.2 := by
  unfold tab_X4_dispense
  refine tcons (ok_aload_n dX4_dispense_0 rfl rfl) ?_
  refine tcons (ok_iload_n dX4_dispense_1 rfl rfl) ?_
  refine tcons (ok_invokevirtual M_X4_isPerson (C := RX4) (T := TX4) (nf := 8) rfl w_138 w_140 w_0 w_20 w_141 ⟨rfl, by decide, by decide, by decide +kernel⟩ (by decide) (by decide) dX4_dispense_2 rfl) ?_
  refine tcons (ok_if_eq dX4_dispense_5 rfl rfl) ?_
  refine tcons (ok_aload_n dX4_dispense_8 rfl rfl) ?_
  refine tcons (ok_iload_n dX4_dispense_9 rfl rfl) ?_
  refine tcons (ok_invokevirtual M_X4_isPerson (C := RX4) (T := TX4) (nf := 8) rfl w_138 w_140 w_0 w_20 w_141 ⟨rfl, by decide, by decide, by decide +kernel⟩ (by decide) (by decide) dX4_dispense_10 rfl) ?_
  refine tcons (ok_if_eq dX4_dispense_13 rfl rfl) ?_
  refine tcons (ok_iconst dX4_dispense_16 rfl rfl) ?_
  refine tcons (ok_goto dX4_dispense_17 rfl) ?_
  refine tcons (ok_iconst dX4_dispense_20 rfl rfl) ?_
  refine tcons (ok_invokestatic M_X4_checkIndex w_146 w_147 w_20 w_148 ⟨by decide, by decide, by decide +kernel⟩ (by decide) (by decide) dX4_dispense_21 rfl) ?_
  refine tcons (ok_iload_n dX4_dispense_24 rfl rfl) ?_
  refine tcons (ok_iload_n dX4_dispense_25 rfl rfl) ?_
  refine tcons (ok_icmp_eq dX4_dispense_26 rfl rfl) ?_
  refine tcons (ok_iload_n dX4_dispense_29 rfl rfl) ?_
  refine tcons (ok_iconst dX4_dispense_30 rfl rfl) ?_
  refine tcons (ok_icmp_eq dX4_dispense_31 rfl rfl) ?_
  refine tcons (ok_iload_n dX4_dispense_34 rfl rfl) ?_
  refine tcons (ok_iconst dX4_dispense_35 rfl rfl) ?_
  refine tcons (ok_icmp_eq dX4_dispense_36 rfl rfl) ?_
  refine tcons (ok_iload_n dX4_dispense_39 rfl rfl) ?_
  refine tcons (ok_bipush dX4_dispense_40 rfl rfl) ?_
  refine tcons (ok_icmp_ne dX4_dispense_42 rfl rfl) ?_
  refine tcons (ok_iconst dX4_dispense_45 rfl rfl) ?_
  refine tcons (ok_goto dX4_dispense_46 rfl) ?_
  refine tcons (ok_iconst dX4_dispense_49 rfl rfl) ?_
  refine tcons (ok_invokestatic M_X4_checkArgument w_217 w_218 w_20 w_219 ⟨by decide, by decide, by decide +kernel⟩ (by decide) (by decide) dX4_dispense_50 rfl) ?_
  refine tcons (ok_aload_n dX4_dispense_53 rfl rfl) ?_
  refine tcons (ok_iload_n dX4_dispense_54 rfl rfl) ?_
  refine tcons (ok_iload_n dX4_dispense_55 rfl rfl) ?_
  refine tcons (ok_invokevirtual M_X4_lastingHindrances (C := RX4) (T := TX4) (nf := 8) rfl w_417 w_419 w_7 w_20 w_420 ⟨rfl, by decide, by decide, by decide +kernel⟩ (by decide) (by decide) dX4_dispense_56 rfl) ?_
  refine tcons (ok_iload_n dX4_dispense_59 rfl rfl) ?_
  refine tcons (ok_iand dX4_dispense_60 rfl) ?_
  refine tcons (ok_if_eq dX4_dispense_61 rfl rfl) ?_
  refine tcons (ok_iconst dX4_dispense_64 rfl rfl) ?_
  refine tcons (ok_goto dX4_dispense_65 rfl) ?_
  refine tcons (ok_iconst dX4_dispense_68 rfl rfl) ?_
  refine tcons (ok_invokestatic M_X4_checkPossible w_240 w_241 w_20 w_242 ⟨by decide, by decide, by decide +kernel⟩ (by decide) (by decide) dX4_dispense_69 rfl) ?_
  refine tcons (ok_aload_n dX4_dispense_72 rfl rfl) ?_
  refine tcons (ok_iload_n dX4_dispense_73 rfl rfl) ?_
  refine tcons (ok_iload_n dX4_dispense_74 rfl rfl) ?_
  refine tcons (ok_iload_n dX4_dispense_75 rfl rfl) ?_
  refine tcons (ok_invokevirtual M_X4_canBeDispensed (C := RX4) (T := TX4) (nf := 8) rfl w_435 w_437 w_9 w_20 w_438 ⟨rfl, by decide, by decide, by decide +kernel⟩ (by decide) (by decide) dX4_dispense_76 rfl) ?_
  refine tcons (ok_invokestatic M_X4_checkPossible w_240 w_241 w_20 w_242 ⟨by decide, by decide, by decide +kernel⟩ (by decide) (by decide) dX4_dispense_79 rfl) ?_
  refine tcons (ok_aload_n dX4_dispense_82 rfl rfl) ?_
  refine tcons (ok_getfield (C := RX4) (T := TX4) (n := 8) rfl in_X4 (by decide) w_102 dX4_dispense_83 rfl) ?_
  refine tcons (ok_iload_n dX4_dispense_86 rfl rfl) ?_
  refine tcons (ok_aaload dX4_dispense_87 rfl) ?_
  refine tcons (ok_iload_n dX4_dispense_88 rfl rfl) ?_
  refine tcons (ok_dup2 dX4_dispense_89 rfl) ?_
  refine tcons (ok_iaload dX4_dispense_90 rfl) ?_
  refine tcons (ok_iload_n dX4_dispense_91 rfl rfl) ?_
  refine tcons (ok_ior dX4_dispense_92 rfl) ?_
  refine tcons (ok_iastore dX4_dispense_93 rfl) ?_
  refine tcons (ok_aload_n dX4_dispense_94 rfl rfl) ?_
  refine tcons (ok_getfield (C := RX4) (T := TX4) (n := 8) rfl in_X4 (by decide) w_102 dX4_dispense_95 rfl) ?_
  refine tcons (ok_iload_n dX4_dispense_98 rfl rfl) ?_
  refine tcons (ok_aaload dX4_dispense_99 rfl) ?_
  refine tcons (ok_iload_n dX4_dispense_100 rfl rfl) ?_
  refine tcons (ok_dup2 dX4_dispense_101 rfl) ?_
  refine tcons (ok_iaload dX4_dispense_102 rfl) ?_
  refine tcons (ok_iload_n dX4_dispense_103 rfl rfl) ?_
  refine tcons (ok_ior dX4_dispense_104 rfl) ?_
  refine tcons (ok_iastore dX4_dispense_105 rfl) ?_
  refine tcons (ok_vreturn rfl dX4_dispense_106) ?_
  exact fun _ h => nomatch h
def sp_X4_dispense : Spc := fun av s N X => match av with
  | [.inl (.inr (1, 0)), .inl (.inl p), .inl (.inl q), .inl (.inl k)] => CI s ∧ chk (iC s 0 p ∧ iC s 0 q) 1 s X (chk (¬ p = q ∧ (k = 1 ∨ k = 2 ∨ k = 8)) 2 s X (chk (¬ lhC s p q &&& k = 0) 3 s X (chk (cbD s p q k) 3 s X (N none (dsS s p q k)))))
  | _ => False
set_option maxRecDepth 20000 in
set_option maxHeartbeats 2000000 in
theorem M_X4_dispense : AMet yX4_dispense cX4_dispense 4 none 10 10 sp_X4_dispense := by
  refine AMet.mc (own := RX4) (by decide) rfl [0, 1, 2, 3] rfl tok_X4_dispense 200 ?_
  intro av s0 N X h
  unfold sp_X4_dispense at h
  split at h
  rotate_left
  · exact h.elim
  rename_i p q k
  obtain ⟨hC, hX, h⟩ := h
  by_cases hc : iC s0 0 p ∧ iC s0 0 q
  · obtain ⟨hX2, h⟩ := h hc
    obtain ⟨hp, hq⟩ := hc
    have bp := iC_I hC hp
    have bq := iC_I hC hq
    by_cases hk : ¬ p = q ∧ (k = 1 ∨ k = 2 ∨ k = 8)
    · obtain ⟨hX3, h⟩ := h hk
      refine ⟨[(53, fun w u L st s => w = 0 ∧ u = 2 ∧ L = [(0, .inr (1, 0)), (1, .inl p), (2, .inl q), (3, .inl k)] ∧ st = [] ∧ s = s0)], ?_, ac ?_ an⟩
      · clear h hX hX2 hX3
        repeat' (first | apply And.intro | (intro q; exact absurd q (by decide)) | (intro q; with_reducible exact absurd hp q) | (intro q; with_reducible exact absurd hq q) | (intro q; exact absurd q hk.1) | intro _)
        all_goals first | decide | (exact (rfl : (0 : Nat) = 0)) | (exact Nat.le_of_ble_eq_true rfl) | (exact ⟨0, 4, trivial, rfl, rfl, rfl, rfl, rfl⟩) | skip
        all_goals (rename_i a b c _; exact absurd hk.2 (fun z => z.elim a (fun z => z.elim b c)))
      · rintro w u L st s ⟨rfl, rfl, rfl, rfl, rfl⟩
        by_cases hl : lhC s p q &&& k = 0
        · have hX3 := hX3 (fun z => z hl)
          clear h hX hX2
          repeat' (first | apply And.intro | (intro q; exact absurd q (by decide)) | (intro q; exact absurd hl q) | intro _)
          all_goals first | (with_reducible exact hC) | (with_reducible exact hp) | (with_reducible exact hq) | decide | (exact (rfl : (0 : Nat) = 0)) | (exact Nat.le_of_ble_eq_true rfl) | exact hX3
        · obtain ⟨hX4, h⟩ := h hl
          clear hX hX2 hX3
          by_cases hb : cbD s p q k
          · have h := h hb
            clear hX4
            repeat' (first | apply And.intro | (intro q; exact absurd q (by decide)) | (intro q; exact absurd q hl) | (intro q; with_reducible exact absurd hb q) | intro _)
            all_goals first | (with_reducible exact hC) | (with_reducible exact hp) | (with_reducible exact hq) | (with_reducible exact bp) | (with_reducible exact bq) | decide | (exact (rfl : (0 : Nat) = 0)) | (exact Nat.le_of_ble_eq_true rfl) | (exact Ib_lt bp) | (exact Ib_lt bq) | exact h
          · have hX4 := hX4 hb
            clear h
            repeat' (first | apply And.intro | (intro q; exact absurd q (by decide)) | (intro q; exact absurd q hl) | (intro q; with_reducible exact absurd q hb) | intro _)
            all_goals first | (with_reducible exact hC) | (with_reducible exact hp) | (with_reducible exact hq) | decide | (exact (rfl : (0 : Nat) = 0)) | (exact Nat.le_of_ble_eq_true rfl) | exact hX4
    · have hX2 := hX2 hk
      clear h hX
      refine ⟨[], ?_, an⟩
      repeat' (first | apply And.intro | (intro q; exact absurd q (by decide)) | (intro q; with_reducible exact absurd hp q) | (intro q; with_reducible exact absurd hq q) | intro _)
      all_goals first | decide | (exact (rfl : (0 : Nat) = 0)) | (exact Nat.le_of_ble_eq_true rfl) | (exact hX2) |
        (exact absurd (⟨by assumption, Or.inl (by assumption)⟩ : ¬ p = q ∧ (k = 1 ∨ k = 2 ∨ k = 8)) hk) | (exact absurd (⟨by assumption, Or.inr (Or.inl (by assumption))⟩ : ¬ p = q ∧ (k = 1 ∨ k = 2 ∨ k = 8)) hk) | (exact absurd (⟨by assumption, Or.inr (Or.inr (Classical.not_not.mp (by assumption)))⟩ : ¬ p = q ∧ (k = 1 ∨ k = 2 ∨ k = 8)) hk)
  · have hX := hX hc
    clear h
    refine ⟨[], ?_, an⟩
    repeat' (first | apply And.intro | (intro q; exact absurd q (by decide)) | intro _)
    all_goals first | decide | (exact (rfl : (0 : Nat) = 0)) | (exact Nat.le_of_ble_eq_true rfl) | (exact hX) | (exact absurd (⟨by assumption, by assumption⟩ : iC s0 0 p ∧ iC s0 0 q) hc) | skip

