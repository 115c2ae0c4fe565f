/-! the law's sentence -/
theorem w_915 : (.methodLink "VowCourtLaw" 156 ⟨"VowCourtLaw", "changes", "([I[I[III)V"⟩ : Cond) ∈ TB := TB_mem (List.mem_of_getElem? (i := 915) (by decide +kernel)) rfl
theorem w_916 : (.static ⟨"VowCourtLaw", "changes", "([I[I[III)V"⟩ : Cond) ∈ TB := TB_mem (List.mem_of_getElem? (i := 916) (by decide +kernel)) rfl
theorem w_917 : (.code yL_changes cL_changes 5 none : Cond) ∈ TB := TB_mem (List.mem_of_getElem? (i := 917) (by decide +kernel)) rfl
theorem w_943 : (.methodLink "VowCourtLaw" 171 ⟨"VowCourtLaw", "areLike", "(II)Z"⟩ : Cond) ∈ TB := TB_mem (List.mem_of_getElem? (i := 943) (by decide +kernel)) rfl
theorem w_944 : (.static ⟨"VowCourtLaw", "areLike", "(II)Z"⟩ : Cond) ∈ TB := TB_mem (List.mem_of_getElem? (i := 944) (by decide +kernel)) rfl
theorem w_945 : (.code yL_areLike cL_areLike 5 (some .boolean) : Cond) ∈ TB := TB_mem (List.mem_of_getElem? (i := 945) (by decide +kernel)) rfl
def lkP (x y j : Nat) : Prop := (j / 7 = j % 7 ∨ (4 < j / 7 ∧ 4 < j % 7)) ∧ x / 2 ^ (j / 7) % 2 = 1 ∧ y / 2 ^ (j % 7) % 2 = 1
def likeL (x y : Nat) : Prop := (x = 0 ∧ y = 0) ∨ ∃ j, j < 49 ∧ lkP x y j
theorem bitN {x k : Nat} (hx : x < 2 ^ 31) (hk : k < 31) : (nI x >>> (nI k &&& 31)) &&& 1 = nI (x / 2 ^ k % 2) := by
  rw [shrN hx hk, and1N (Nat.lt_of_le_of_lt (Nat.div_le_self _ _) hx)]
theorem bit1 {x k : Nat} : (nI (x / 2 ^ k % 2) = 1) ↔ x / 2 ^ k % 2 = 1 := nI_eq (b := 1) (by omega) (by decide)
theorem dL_areLike_0 : decode cL_areLike 0 = .ok (.iload_n 0, 1) := by decide +kernel
theorem dL_areLike_1 : decode cL_areLike 1 = .ok (.ifCond .ne 11, 3) := by decide +kernel
theorem dL_areLike_4 : decode cL_areLike 4 = .ok (.iload_n 1, 1) := by decide +kernel
theorem dL_areLike_5 : decode cL_areLike 5 = .ok (.ifCond .ne 7, 3) := by decide +kernel
theorem dL_areLike_8 : decode cL_areLike 8 = .ok (.iconst 1, 1) := by decide +kernel
theorem dL_areLike_9 : decode cL_areLike 9 = .ok (.goto 4, 3) := by decide +kernel
theorem dL_areLike_12 : decode cL_areLike 12 = .ok (.iconst 0, 1) := by decide +kernel
theorem dL_areLike_13 : decode cL_areLike 13 = .ok (.istore_n 2, 1) := by decide +kernel
theorem dL_areLike_14 : decode cL_areLike 14 = .ok (.iconst 0, 1) := by decide +kernel
theorem dL_areLike_15 : decode cL_areLike 15 = .ok (.istore_n 3, 1) := by decide +kernel
theorem dL_areLike_16 : decode cL_areLike 16 = .ok (.iload_n 3, 1) := by decide +kernel
theorem dL_areLike_17 : decode cL_areLike 17 = .ok (.bipush 49, 2) := by decide +kernel
theorem dL_areLike_19 : decode cL_areLike 19 = .ok (.if_icmp .ge 82, 3) := by decide +kernel
theorem dL_areLike_22 : decode cL_areLike 22 = .ok (.iload_n 3, 1) := by decide +kernel
theorem dL_areLike_23 : decode cL_areLike 23 = .ok (.bipush 7, 2) := by decide +kernel
theorem dL_areLike_25 : decode cL_areLike 25 = .ok (.idiv, 1) := by decide +kernel
theorem dL_areLike_26 : decode cL_areLike 26 = .ok (.iload_n 3, 1) := by decide +kernel
theorem dL_areLike_27 : decode cL_areLike 27 = .ok (.bipush 7, 2) := by decide +kernel
theorem dL_areLike_29 : decode cL_areLike 29 = .ok (.irem, 1) := by decide +kernel
theorem dL_areLike_30 : decode cL_areLike 30 = .ok (.if_icmp .eq 19, 3) := by decide +kernel
theorem dL_areLike_33 : decode cL_areLike 33 = .ok (.iload_n 3, 1) := by decide +kernel
theorem dL_areLike_34 : decode cL_areLike 34 = .ok (.bipush 7, 2) := by decide +kernel
theorem dL_areLike_36 : decode cL_areLike 36 = .ok (.idiv, 1) := by decide +kernel
theorem dL_areLike_37 : decode cL_areLike 37 = .ok (.iconst 4, 1) := by decide +kernel
theorem dL_areLike_38 : decode cL_areLike 38 = .ok (.if_icmp .le 15, 3) := by decide +kernel
theorem dL_areLike_41 : decode cL_areLike 41 = .ok (.iload_n 3, 1) := by decide +kernel
theorem dL_areLike_42 : decode cL_areLike 42 = .ok (.bipush 7, 2) := by decide +kernel
theorem dL_areLike_44 : decode cL_areLike 44 = .ok (.irem, 1) := by decide +kernel
theorem dL_areLike_45 : decode cL_areLike 45 = .ok (.iconst 4, 1) := by decide +kernel
theorem dL_areLike_46 : decode cL_areLike 46 = .ok (.if_icmp .le 7, 3) := by decide +kernel
theorem dL_areLike_49 : decode cL_areLike 49 = .ok (.iconst 1, 1) := by decide +kernel
theorem dL_areLike_50 : decode cL_areLike 50 = .ok (.goto 4, 3) := by decide +kernel
theorem dL_areLike_53 : decode cL_areLike 53 = .ok (.iconst 0, 1) := by decide +kernel
theorem dL_areLike_54 : decode cL_areLike 54 = .ok (.istore 4, 2) := by decide +kernel
theorem dL_areLike_56 : decode cL_areLike 56 = .ok (.iload_n 2, 1) := by decide +kernel
theorem dL_areLike_57 : decode cL_areLike 57 = .ok (.ifCond .ne 32, 3) := by decide +kernel
theorem dL_areLike_60 : decode cL_areLike 60 = .ok (.iload 4, 2) := by decide +kernel
theorem dL_areLike_62 : decode cL_areLike 62 = .ok (.ifCond .eq 31, 3) := by decide +kernel
theorem dL_areLike_65 : decode cL_areLike 65 = .ok (.iload_n 0, 1) := by decide +kernel
theorem dL_areLike_66 : decode cL_areLike 66 = .ok (.iload_n 3, 1) := by decide +kernel
theorem dL_areLike_67 : decode cL_areLike 67 = .ok (.bipush 7, 2) := by decide +kernel
theorem dL_areLike_69 : decode cL_areLike 69 = .ok (.idiv, 1) := by decide +kernel
theorem dL_areLike_70 : decode cL_areLike 70 = .ok (.ishr, 1) := by decide +kernel
theorem dL_areLike_71 : decode cL_areLike 71 = .ok (.iconst 1, 1) := by decide +kernel
theorem dL_areLike_72 : decode cL_areLike 72 = .ok (.iand, 1) := by decide +kernel
theorem dL_areLike_73 : decode cL_areLike 73 = .ok (.iconst 1, 1) := by decide +kernel
theorem dL_areLike_74 : decode cL_areLike 74 = .ok (.if_icmp .ne 19, 3) := by decide +kernel
theorem dL_areLike_77 : decode cL_areLike 77 = .ok (.iload_n 1, 1) := by decide +kernel
theorem dL_areLike_78 : decode cL_areLike 78 = .ok (.iload_n 3, 1) := by decide +kernel
theorem dL_areLike_79 : decode cL_areLike 79 = .ok (.bipush 7, 2) := by decide +kernel
theorem dL_areLike_81 : decode cL_areLike 81 = .ok (.irem, 1) := by decide +kernel
theorem dL_areLike_82 : decode cL_areLike 82 = .ok (.ishr, 1) := by decide +kernel
theorem dL_areLike_83 : decode cL_areLike 83 = .ok (.iconst 1, 1) := by decide +kernel
theorem dL_areLike_84 : decode cL_areLike 84 = .ok (.iand, 1) := by decide +kernel
theorem dL_areLike_85 : decode cL_areLike 85 = .ok (.iconst 1, 1) := by decide +kernel
theorem dL_areLike_86 : decode cL_areLike 86 = .ok (.if_icmp .ne 7, 3) := by decide +kernel
theorem dL_areLike_89 : decode cL_areLike 89 = .ok (.iconst 1, 1) := by decide +kernel
theorem dL_areLike_90 : decode cL_areLike 90 = .ok (.goto 4, 3) := by decide +kernel
theorem dL_areLike_93 : decode cL_areLike 93 = .ok (.iconst 0, 1) := by decide +kernel
theorem dL_areLike_94 : decode cL_areLike 94 = .ok (.istore_n 2, 1) := by decide +kernel
theorem dL_areLike_95 : decode cL_areLike 95 = .ok (.iinc 3 1, 3) := by decide +kernel
theorem dL_areLike_98 : decode cL_areLike 98 = .ok (.goto (-82), 3) := by decide +kernel
theorem dL_areLike_101 : decode cL_areLike 101 = .ok (.iload_n 2, 1) := by decide +kernel
theorem dL_areLike_102 : decode cL_areLike 102 = .ok (.ireturn, 1) := by decide +kernel
def tab_L_areLike : List (Nat × Sem) := [(0, op_il 0 1), (1, op_if (fun x => ¬ x = 0) 12 4), (4, op_il 1 5), (5, op_if (fun x => ¬ x = 0) 12 8), (8, op_ic 1 9), (9, op_go 13), (12, op_ic 0 13), (13, op_is 2 14), (14, op_ic 0 15), (15, op_is 3 16), (16, op_il 3 17), (17, op_ic 49 19), (19, op_cmp (fun x y => y ≤ x) 101 22), (22, op_il 3 23), (23, op_ic 7 25), (25, op_dv (fun x y => x / y) 26), (26, op_il 3 27), (27, op_ic 7 29), (29, op_dv (fun x y => irm x y) 30), (30, op_cmp (fun x y => x = y) 49 33), (33, op_il 3 34), (34, op_ic 7 36), (36, op_dv (fun x y => x / y) 37), (37, op_ic 4 38), (38, op_cmp (fun x y => x ≤ y) 53 41), (41, op_il 3 42), (42, op_ic 7 44), (44, op_dv (fun x y => irm x y) 45), (45, op_ic 4 46), (46, op_cmp (fun x y => x ≤ y) 53 49), (49, op_ic 1 50), (50, op_go 54), (53, op_ic 0 54), (54, op_is 4 56), (56, op_il 2 57), (57, op_if (fun x => ¬ x = 0) 89 60), (60, op_il 4 62), (62, op_if (fun x => x = 0) 93 65), (65, op_il 0 66), (66, op_il 3 67), (67, op_ic 7 69), (69, op_dv (fun x y => x / y) 70), (70, op_bin (fun x y => x >>> (y &&& 31)) 71), (71, op_ic 1 72), (72, op_bin (fun x y => x &&& y) 73), (73, op_ic 1 74), (74, op_cmp (fun x y => ¬ x = y) 93 77), (77, op_il 1 78), (78, op_il 3 79), (79, op_ic 7 81), (81, op_dv (fun x y => irm x y) 82), (82, op_bin (fun x y => x >>> (y &&& 31)) 83), (83, op_ic 1 84), (84, op_bin (fun x y => x &&& y) 85), (85, op_ic 1 86), (86, op_cmp (fun x y => ¬ x = y) 93 89), (89, op_ic 1 90), (90, op_go 94), (93, op_ic 0 94), (94, op_is 2 95), (95, op_inc 3 1 98), (98, op_go 16), (101, op_il 2 102), (102, op_zret)]
set_option maxRecDepth 20000 in
theorem tok_L_areLike : ∀ q ∈ tab_L_areLike, Snd RL cL_areLike 5 0 0 (some .boolean) q.1 q.2 := by
  unfold tab_L_areLike
  refine tcons (ok_iload_n dL_areLike_0 rfl rfl) ?_
  refine tcons (ok_if_ne dL_areLike_1 rfl rfl) ?_
  refine tcons (ok_iload_n dL_areLike_4 rfl rfl) ?_
  refine tcons (ok_if_ne dL_areLike_5 rfl rfl) ?_
  refine tcons (ok_iconst dL_areLike_8 rfl rfl) ?_
  refine tcons (ok_goto dL_areLike_9 rfl) ?_
  refine tcons (ok_iconst dL_areLike_12 rfl rfl) ?_
  refine tcons (ok_istore_n dL_areLike_13 rfl (by decide) rfl) ?_
  refine tcons (ok_iconst dL_areLike_14 rfl rfl) ?_
  refine tcons (ok_istore_n dL_areLike_15 rfl (by decide) rfl) ?_
  refine tcons (ok_iload_n dL_areLike_16 rfl rfl) ?_
  refine tcons (ok_bipush dL_areLike_17 rfl rfl) ?_
  refine tcons (ok_icmp_ge dL_areLike_19 rfl rfl) ?_
  refine tcons (ok_iload_n dL_areLike_22 rfl rfl) ?_
  refine tcons (ok_bipush dL_areLike_23 rfl rfl) ?_
  refine tcons (ok_idiv dL_areLike_25 rfl) ?_
  refine tcons (ok_iload_n dL_areLike_26 rfl rfl) ?_
  refine tcons (ok_bipush dL_areLike_27 rfl rfl) ?_
  refine tcons (ok_irem dL_areLike_29 rfl) ?_
  refine tcons (ok_icmp_eq dL_areLike_30 rfl rfl) ?_
  refine tcons (ok_iload_n dL_areLike_33 rfl rfl) ?_
  refine tcons (ok_bipush dL_areLike_34 rfl rfl) ?_
  refine tcons (ok_idiv dL_areLike_36 rfl) ?_
  refine tcons (ok_iconst dL_areLike_37 rfl rfl) ?_
  refine tcons (ok_icmp_le dL_areLike_38 rfl rfl) ?_
  refine tcons (ok_iload_n dL_areLike_41 rfl rfl) ?_
  refine tcons (ok_bipush dL_areLike_42 rfl rfl) ?_
  refine tcons (ok_irem dL_areLike_44 rfl) ?_
  refine tcons (ok_iconst dL_areLike_45 rfl rfl) ?_
  refine tcons (ok_icmp_le dL_areLike_46 rfl rfl) ?_
  refine tcons (ok_iconst dL_areLike_49 rfl rfl) ?_
  refine tcons (ok_goto dL_areLike_50 rfl) ?_
  refine tcons (ok_iconst dL_areLike_53 rfl rfl) ?_
  refine tcons (ok_istore dL_areLike_54 (by decide) rfl) ?_
  refine tcons (ok_iload_n dL_areLike_56 rfl rfl) ?_
  refine tcons (ok_if_ne dL_areLike_57 rfl rfl) ?_
  refine tcons (ok_iload dL_areLike_60 rfl) ?_
  refine tcons (ok_if_eq dL_areLike_62 rfl rfl) ?_
  refine tcons (ok_iload_n dL_areLike_65 rfl rfl) ?_
  refine tcons (ok_iload_n dL_areLike_66 rfl rfl) ?_
  refine tcons (ok_bipush dL_areLike_67 rfl rfl) ?_
  refine tcons (ok_idiv dL_areLike_69 rfl) ?_
  refine tcons (ok_ishr dL_areLike_70 rfl) ?_
  refine tcons (ok_iconst dL_areLike_71 rfl rfl) ?_
  refine tcons (ok_iand dL_areLike_72 rfl) ?_
  refine tcons (ok_iconst dL_areLike_73 rfl rfl) ?_
  refine tcons (ok_icmp_ne dL_areLike_74 rfl rfl) ?_
  refine tcons (ok_iload_n dL_areLike_77 rfl rfl) ?_
  refine tcons (ok_iload_n dL_areLike_78 rfl rfl) ?_
  refine tcons (ok_bipush dL_areLike_79 rfl rfl) ?_
  refine tcons (ok_irem dL_areLike_81 rfl) ?_
  refine tcons (ok_ishr dL_areLike_82 rfl) ?_
  refine tcons (ok_iconst dL_areLike_83 rfl rfl) ?_
  refine tcons (ok_iand dL_areLike_84 rfl) ?_
  refine tcons (ok_iconst dL_areLike_85 rfl rfl) ?_
  refine tcons (ok_icmp_ne dL_areLike_86 rfl rfl) ?_
  refine tcons (ok_iconst dL_areLike_89 rfl rfl) ?_
  refine tcons (ok_goto dL_areLike_90 rfl) ?_
  refine tcons (ok_iconst dL_areLike_93 rfl rfl) ?_
  refine tcons (ok_istore_n dL_areLike_94 rfl (by decide) rfl) ?_
  refine tcons (ok_iinc dL_areLike_95 rfl (by decide) rfl) ?_
  refine tcons (ok_goto dL_areLike_98 rfl) ?_
  refine tcons (ok_iload_n dL_areLike_101 rfl rfl) ?_
  refine tcons (ok_zreturn rfl (Or.inl rfl) dL_areLike_102) ?_
  exact fun _ h => nomatch h
def sp_L_areLike : Spc := fun av s N _ => match av with
  | [.inl (.inl a), .inl (.inl b)] => ∃ x y : Nat, x < 128 ∧ y < 128 ∧ a = nI x ∧ b = nI y ∧ br (likeL x y) N s
  | _ => False
set_option maxRecDepth 20000 in
set_option maxHeartbeats 2000000 in
theorem M_L_areLike : AMet yL_areLike cL_areLike 5 (some .boolean) 0 0 sp_L_areLike := by
  refine AMet.rn (own := RL) (by decide) rfl [0, 1, 2, 3, 4] rfl tok_L_areLike ?_
  intro av s0 N X h Z run
  unfold sp_L_areLike at h
  split at h
  rotate_left
  · exact h.elim
  rename_i a b
  obtain ⟨x, y, hx, hy, rfl, rfl, h⟩ := h
  have lp := loop_up (n := 49) (P := fun k => ∀ z : Int32, Bv z ((x = 0 ∧ y = 0) ∨ ∃ j, j < k ∧ lkP x y j) → Z 16 0 [(0, .inl (nI x)), (1, .inl (nI y)), (2, .inl z), (3, .inl (nI k))] [] s0) ?_ ?_ 0 (Nat.zero_le _)
  · have j : ∀ z : Int32, Bv z (x = 0 ∧ y = 0) → Z 13 0 [(0, .inl (nI x)), (1, .inl (nI y))] [aI z] s0 := by
      intro z hz
      exact run.go [16] 20 (lp _ (Bv_iff hz ⟨Or.inl, fun q => q.elim id (fun q => absurd q ex_0)⟩))
    have ex : nI x = 0 ↔ x = 0 := nI_eq (b := 0) (by omega) (by decide)
    have ey : nI y = 0 ↔ y = 0 := nI_eq (b := 0) (by omega) (by decide)
    refine run.go [13] 20 ?_
    repeat' (first | apply And.intro | (intro q; exact absurd q (by decide)) | (intro q; exact absurd (by decide) q) | (intro q; exact absurd rfl q) | intro _)
    all_goals first | (exact trivial) | decide | (exact (rfl : (0 : Nat) = 0)) | (exact Nat.le_of_ble_eq_true rfl) | contradiction | (exact j _ (Bv_f (by grind))) | (exact j _ (Bv_t (by grind)))
  · intro z hz
    have hle : (49 : Int32) ≤ nI 49 := by decide
    refine run.go [] 20 ?_
    repeat' (first | apply And.intro | (intro q; exact absurd q (by decide)) | (intro q; exact absurd (by decide) q) | (intro q; exact absurd rfl q) | (intro q; exact absurd q hle) | (intro q; exact absurd hle q) | intro _)
    all_goals first | (exact Bv_01 hz) | (exact br_of h hz) | (exact trivial) | decide | (exact (rfl : (0 : Nat) = 0)) | (exact Nat.le_of_ble_eq_true rfl) | contradiction
  · intro k hk ih z hz
    have hle : ¬ (49 : Int32) ≤ nI k := nI_ge (b := 49) hk (by decide)
    have e1 : nI k / 7 = nI (k / 7) := divN (d := 7) (by omega) (by decide) (by decide)
    have e2 : irm (nI k) 7 = nI (k % 7) := irmN (d := 7) (by omega) (by decide) (by decide)
    have e3 : (nI x >>> ((nI k / 7) &&& 31)) &&& 1 = nI (x / 2 ^ (k / 7) % 2) := by rw [e1]; exact bitN (by omega) (by omega)
    have e4 : (nI y >>> (irm (nI k) 7 &&& 31)) &&& 1 = nI (y / 2 ^ (k % 7) % 2) := by rw [e2]; exact bitN (by omega) (by omega)
    have g1 : nI (k / 7) = nI (k % 7) ↔ k / 7 = k % 7 := nI_eq (by omega) (by omega)
    have g2 : nI (k / 7) ≤ 4 ↔ k / 7 ≤ 4 := nI_leI (b := 4) (by omega) (by decide)
    have g3 : nI (k % 7) ≤ 4 ↔ k % 7 ≤ 4 := nI_leI (b := 4) (by omega) (by decide)
    have j2 : ∀ t w : Int32, Bv w (((x = 0 ∧ y = 0) ∨ ∃ j, j < k ∧ lkP x y j) ∨ lkP x y k) → Z 94 0 [(0, .inl (nI x)), (1, .inl (nI y)), (2, .inl z), (3, .inl (nI k)), (4, .inl t)] [aI w] s0 := by
      intro t w hw
      have ih := ih w (Bv_iff hw (by rw [ex_s, or_assoc]))
      rw [← nIs] at ih
      exact run.go [16] 20 (run.take 4 ih)
    have j1 : ∀ t : Int32, Bv t (k / 7 = k % 7 ∨ (4 < k / 7 ∧ 4 < k % 7)) → Z 54 0 [(0, .inl (nI x)), (1, .inl (nI y)), (2, .inl z), (3, .inl (nI k))] [aI t] s0 := by
      intro t ht
      rcases hz with ⟨rfl, hA⟩ | ⟨rfl, hA⟩
      · refine run.go [94] 40 ?_
        repeat' (first | apply And.intro | (intro q; exact absurd q (by decide)) | (intro q; exact absurd (by decide) q) | (intro q; exact absurd rfl q) | intro _)
        all_goals first | (exact trivial) | decide | (exact (rfl : (0 : Nat) = 0)) | (exact Nat.le_of_ble_eq_true rfl) | contradiction | (exact j2 _ _ (Bv_t (Or.inl hA)))
      · rcases ht with ⟨rfl, hB⟩ | ⟨rfl, hB⟩
        · refine run.go [94] 40 ?_
          repeat' (first | apply And.intro | (intro q; exact absurd q (by decide)) | (intro q; exact absurd (by decide) q) | (intro q; exact absurd rfl q) | intro _)
          all_goals first | (exact trivial) | decide | (exact (rfl : (0 : Nat) = 0)) | (exact Nat.le_of_ble_eq_true rfl) | contradiction | skip
          all_goals (simp only [e3, e4, bit1] at *)
          · rename_i q
            exact j2 _ _ (Bv_f (fun z => z.elim hA (fun z => q z.2.1)))
          · rename_i q1 q
            exact j2 _ _ (Bv_f (fun z => z.elim hA (fun z => q z.2.2)))
          · rename_i q1 q
            exact j2 _ _ (Bv_t (Or.inr ⟨hB, Classical.not_not.mp q1, Classical.not_not.mp q⟩))
        · refine run.go [94] 40 ?_
          repeat' (first | apply And.intro | (intro q; exact absurd q (by decide)) | (intro q; exact absurd (by decide) q) | (intro q; exact absurd rfl q) | intro _)
          all_goals first | (exact trivial) | decide | (exact (rfl : (0 : Nat) = 0)) | (exact Nat.le_of_ble_eq_true rfl) | contradiction | (exact j2 _ _ (Bv_f (fun z => z.elim hA (fun z => hB z.1))))
    refine run.go [54] 40 ?_
    repeat' (first | apply And.intro | (intro q; exact absurd q (by decide)) | (intro q; exact absurd (by decide) q) | (intro q; exact absurd rfl q) | (intro q; exact absurd q hle) | (intro q; exact absurd hle q) | intro _)
    all_goals first | (exact trivial) | decide | (exact (rfl : (0 : Nat) = 0)) | (exact Nat.le_of_ble_eq_true rfl) | contradiction | skip
    all_goals (simp only [e1, e2, g1, g2, g3] at *)
    all_goals first | (exact j1 _ (Bv_t (by omega))) | (exact j1 _ (Bv_f (by omega)))
/-- the grounds for which two voted at least -/
def majL (x y z : Nat) : Nat → Nat
  | 0 => 0
  | k + 1 => majL x y z k ||| (if 1 < x / 2 ^ k % 2 + y / 2 ^ k % 2 + z / 2 ^ k % 2 then 2 ^ k else 0)
theorem majL_lt {x y z : Nat} : ∀ k, k ≤ 7 → majL x y z k < 128
  | 0, _ => show 0 < 128 by decide
  | k + 1, h => by
    have h1 := majL_lt (x := x) (y := y) (z := z) k (by omega)
    unfold majL
    refine Nat.or_lt_two_pow (n := 7) h1 ?_
    split
    · exact Nat.pow_lt_pow_right (by decide) (by omega)
    · decide
/-- three places of 129 -/
def pk3 (a b c : Nat) : Nat := a + 129 * b + 16641 * c
theorem pk3_a {a b c : Nat} (ha : a < 129) (hb : b < 129) (hc : c < 129) : irm (nI (pk3 a b c)) 129 = nI a := by
  unfold pk3
  rw [show (129 : Int32) = nI 129 from rfl, irmN (by omega) (by decide) (by decide)]
  congr 1
  omega
theorem pk3_b {a b c : Nat} (ha : a < 129) (hb : b < 129) (hc : c < 129) : irm (nI (pk3 a b c) / 129) 129 = nI b := by
  unfold pk3
  rw [show (129 : Int32) = nI 129 from rfl, divN (by omega) (by decide) (by decide), irmN (by omega) (by decide) (by decide)]
  congr 1
  omega
theorem pk3_c {a b c : Nat} (ha : a < 129) (hb : b < 129) (hc : c < 129) : nI (pk3 a b c) / 16641 = nI c := by
  unfold pk3
  rw [show (16641 : Int32) = nI 16641 from rfl, divN (by omega) (by decide) (by decide)]
  congr 1
  omega
/-- the sentences told so far, and this one -/
def sx (ins m x : Nat) : Nat := if ins = 1 then m + 1 else x
def sy (ins m y : Nat) : Nat := if ins = 2 then m + 1 else y
def sz (ins m z : Nat) : Nat := if ins = 3 then m + 1 else z
/-- whether it goes on; whether it is NULLIFIED -/
def goesL (ins m x : Nat) : Prop := (ins = 1 ∧ 0 < m) ∨ (ins = 2 ∧ ¬ likeL m (x - 1))
def nulL (ins m x y : Nat) : Prop := ¬ goesL ins m x ∧ 0 < m ∧ (ins = 2 ∨ (ins = 3 ∧ (likeL m (x - 1) ∨ likeL m (y - 1))))
def seE (s : Sg) (i ins m x y z : Nat) : Sg := stS s 29 0 i (nI (pk3 (sx ins m x) (sy ins m y) (sz ins m z)))
noncomputable def seG (s : Sg) (i vw db ins : Nat) (G nul : Prop) : Sg := iteP G (stS (stS s 26 0 i (nI (pkC vw db 0 (ins + 1)))) 28 0 i 0) (stS s 26 0 i (nI (pkC vw db (iteP nul 2 3) ins)))
noncomputable def seV (s : Sg) (vw one oth pl lk st la : Nat) (nul : Prop) : Sg := iteP nul (chV one oth pl lk st la 1 s vw) s
theorem dL_sentence_0 : decode cL_sentence 0 = .ok (.aload_n 3, 1) := by decide +kernel
theorem dL_sentence_1 : decode cL_sentence 1 = .ok (.iload 6, 2) := by decide +kernel
theorem dL_sentence_3 : decode cL_sentence 3 = .ok (.iaload, 1) := by decide +kernel
theorem dL_sentence_4 : decode cL_sentence 4 = .ok (.sipush 129, 3) := by decide +kernel
theorem dL_sentence_7 : decode cL_sentence 7 = .ok (.irem, 1) := by decide +kernel
theorem dL_sentence_8 : decode cL_sentence 8 = .ok (.iconst 1, 1) := by decide +kernel
theorem dL_sentence_9 : decode cL_sentence 9 = .ok (.isub, 1) := by decide +kernel
theorem dL_sentence_10 : decode cL_sentence 10 = .ok (.istore 7, 2) := by decide +kernel
theorem dL_sentence_12 : decode cL_sentence 12 = .ok (.aload_n 3, 1) := by decide +kernel
theorem dL_sentence_13 : decode cL_sentence 13 = .ok (.iload 6, 2) := by decide +kernel
theorem dL_sentence_15 : decode cL_sentence 15 = .ok (.iaload, 1) := by decide +kernel
theorem dL_sentence_16 : decode cL_sentence 16 = .ok (.sipush 129, 3) := by decide +kernel
theorem dL_sentence_19 : decode cL_sentence 19 = .ok (.idiv, 1) := by decide +kernel
theorem dL_sentence_20 : decode cL_sentence 20 = .ok (.sipush 129, 3) := by decide +kernel
theorem dL_sentence_23 : decode cL_sentence 23 = .ok (.irem, 1) := by decide +kernel
theorem dL_sentence_24 : decode cL_sentence 24 = .ok (.iconst 1, 1) := by decide +kernel
theorem dL_sentence_25 : decode cL_sentence 25 = .ok (.isub, 1) := by decide +kernel
theorem dL_sentence_26 : decode cL_sentence 26 = .ok (.istore 8, 2) := by decide +kernel
theorem dL_sentence_28 : decode cL_sentence 28 = .ok (.aload_n 3, 1) := by decide +kernel
theorem dL_sentence_29 : decode cL_sentence 29 = .ok (.iload 6, 2) := by decide +kernel
theorem dL_sentence_31 : decode cL_sentence 31 = .ok (.iaload, 1) := by decide +kernel
theorem dL_sentence_32 : decode cL_sentence 32 = .ok (.sipush 16641, 3) := by decide +kernel
theorem dL_sentence_35 : decode cL_sentence 35 = .ok (.idiv, 1) := by decide +kernel
theorem dL_sentence_36 : decode cL_sentence 36 = .ok (.iconst 1, 1) := by decide +kernel
theorem dL_sentence_37 : decode cL_sentence 37 = .ok (.isub, 1) := by decide +kernel
theorem dL_sentence_38 : decode cL_sentence 38 = .ok (.istore 9, 2) := by decide +kernel
theorem dL_sentence_40 : decode cL_sentence 40 = .ok (.iconst 0, 1) := by decide +kernel
theorem dL_sentence_41 : decode cL_sentence 41 = .ok (.istore 10, 2) := by decide +kernel
theorem dL_sentence_43 : decode cL_sentence 43 = .ok (.iconst 0, 1) := by decide +kernel
theorem dL_sentence_44 : decode cL_sentence 44 = .ok (.istore 11, 2) := by decide +kernel
theorem dL_sentence_46 : decode cL_sentence 46 = .ok (.iload 11, 2) := by decide +kernel
theorem dL_sentence_48 : decode cL_sentence 48 = .ok (.bipush 7, 2) := by decide +kernel
theorem dL_sentence_50 : decode cL_sentence 50 = .ok (.if_icmp .ge 49, 3) := by decide +kernel
theorem dL_sentence_53 : decode cL_sentence 53 = .ok (.iload 10, 2) := by decide +kernel
theorem dL_sentence_55 : decode cL_sentence 55 = .ok (.iload 7, 2) := by decide +kernel
theorem dL_sentence_57 : decode cL_sentence 57 = .ok (.iload 11, 2) := by decide +kernel
theorem dL_sentence_59 : decode cL_sentence 59 = .ok (.ishr, 1) := by decide +kernel
theorem dL_sentence_60 : decode cL_sentence 60 = .ok (.iconst 1, 1) := by decide +kernel
theorem dL_sentence_61 : decode cL_sentence 61 = .ok (.iand, 1) := by decide +kernel
theorem dL_sentence_62 : decode cL_sentence 62 = .ok (.iload 8, 2) := by decide +kernel
theorem dL_sentence_64 : decode cL_sentence 64 = .ok (.iload 11, 2) := by decide +kernel
theorem dL_sentence_66 : decode cL_sentence 66 = .ok (.ishr, 1) := by decide +kernel
theorem dL_sentence_67 : decode cL_sentence 67 = .ok (.iconst 1, 1) := by decide +kernel
theorem dL_sentence_68 : decode cL_sentence 68 = .ok (.iand, 1) := by decide +kernel
theorem dL_sentence_69 : decode cL_sentence 69 = .ok (.iadd, 1) := by decide +kernel
theorem dL_sentence_70 : decode cL_sentence 70 = .ok (.iload 9, 2) := by decide +kernel
theorem dL_sentence_72 : decode cL_sentence 72 = .ok (.iload 11, 2) := by decide +kernel
theorem dL_sentence_74 : decode cL_sentence 74 = .ok (.ishr, 1) := by decide +kernel
theorem dL_sentence_75 : decode cL_sentence 75 = .ok (.iconst 1, 1) := by decide +kernel
theorem dL_sentence_76 : decode cL_sentence 76 = .ok (.iand, 1) := by decide +kernel
theorem dL_sentence_77 : decode cL_sentence 77 = .ok (.iadd, 1) := by decide +kernel
theorem dL_sentence_78 : decode cL_sentence 78 = .ok (.iconst 1, 1) := by decide +kernel
theorem dL_sentence_79 : decode cL_sentence 79 = .ok (.if_icmp .le 10, 3) := by decide +kernel
theorem dL_sentence_82 : decode cL_sentence 82 = .ok (.iconst 1, 1) := by decide +kernel
theorem dL_sentence_83 : decode cL_sentence 83 = .ok (.iload 11, 2) := by decide +kernel
theorem dL_sentence_85 : decode cL_sentence 85 = .ok (.ishl, 1) := by decide +kernel
theorem dL_sentence_86 : decode cL_sentence 86 = .ok (.goto 4, 3) := by decide +kernel
theorem dL_sentence_89 : decode cL_sentence 89 = .ok (.iconst 0, 1) := by decide +kernel
theorem dL_sentence_90 : decode cL_sentence 90 = .ok (.ior, 1) := by decide +kernel
theorem dL_sentence_91 : decode cL_sentence 91 = .ok (.istore 10, 2) := by decide +kernel
theorem dL_sentence_93 : decode cL_sentence 93 = .ok (.iinc 11 1, 3) := by decide +kernel
theorem dL_sentence_96 : decode cL_sentence 96 = .ok (.goto (-50), 3) := by decide +kernel
theorem dL_sentence_99 : decode cL_sentence 99 = .ok (.aload_n 2, 1) := by decide +kernel
theorem dL_sentence_100 : decode cL_sentence 100 = .ok (.iload 6, 2) := by decide +kernel
theorem dL_sentence_102 : decode cL_sentence 102 = .ok (.iaload, 1) := by decide +kernel
theorem dL_sentence_103 : decode cL_sentence 103 = .ok (.sipush 8192, 3) := by decide +kernel
theorem dL_sentence_106 : decode cL_sentence 106 = .ok (.idiv, 1) := by decide +kernel
theorem dL_sentence_107 : decode cL_sentence 107 = .ok (.istore 11, 2) := by decide +kernel
theorem dL_sentence_109 : decode cL_sentence 109 = .ok (.aload 4, 2) := by decide +kernel
theorem dL_sentence_111 : decode cL_sentence 111 = .ok (.iload 6, 2) := by decide +kernel
theorem dL_sentence_113 : decode cL_sentence 113 = .ok (.dup2, 1) := by decide +kernel
theorem dL_sentence_114 : decode cL_sentence 114 = .ok (.iaload, 1) := by decide +kernel
theorem dL_sentence_115 : decode cL_sentence 115 = .ok (.iload 10, 2) := by decide +kernel
theorem dL_sentence_117 : decode cL_sentence 117 = .ok (.iconst 1, 1) := by decide +kernel
theorem dL_sentence_118 : decode cL_sentence 118 = .ok (.iadd, 1) := by decide +kernel
theorem dL_sentence_119 : decode cL_sentence 119 = .ok (.iload 11, 2) := by decide +kernel
theorem dL_sentence_121 : decode cL_sentence 121 = .ok (.iconst 1, 1) := by decide +kernel
theorem dL_sentence_122 : decode cL_sentence 122 = .ok (.if_icmp .ne 7, 3) := by decide +kernel
theorem dL_sentence_125 : decode cL_sentence 125 = .ok (.iconst 1, 1) := by decide +kernel
theorem dL_sentence_126 : decode cL_sentence 126 = .ok (.goto 18, 3) := by decide +kernel
theorem dL_sentence_129 : decode cL_sentence 129 = .ok (.iload 11, 2) := by decide +kernel
theorem dL_sentence_131 : decode cL_sentence 131 = .ok (.iconst 2, 1) := by decide +kernel
theorem dL_sentence_132 : decode cL_sentence 132 = .ok (.if_icmp .ne 9, 3) := by decide +kernel
theorem dL_sentence_135 : decode cL_sentence 135 = .ok (.sipush 129, 3) := by decide +kernel
theorem dL_sentence_138 : decode cL_sentence 138 = .ok (.goto 6, 3) := by decide +kernel
theorem dL_sentence_141 : decode cL_sentence 141 = .ok (.sipush 16641, 3) := by decide +kernel
theorem dL_sentence_144 : decode cL_sentence 144 = .ok (.imul, 1) := by decide +kernel
theorem dL_sentence_145 : decode cL_sentence 145 = .ok (.iadd, 1) := by decide +kernel
theorem dL_sentence_146 : decode cL_sentence 146 = .ok (.iastore, 1) := by decide +kernel
theorem dL_sentence_147 : decode cL_sentence 147 = .ok (.aload 4, 2) := by decide +kernel
theorem dL_sentence_149 : decode cL_sentence 149 = .ok (.iload 6, 2) := by decide +kernel
theorem dL_sentence_151 : decode cL_sentence 151 = .ok (.iaload, 1) := by decide +kernel
theorem dL_sentence_152 : decode cL_sentence 152 = .ok (.sipush 129, 3) := by decide +kernel
theorem dL_sentence_155 : decode cL_sentence 155 = .ok (.irem, 1) := by decide +kernel
theorem dL_sentence_156 : decode cL_sentence 156 = .ok (.iconst 1, 1) := by decide +kernel
theorem dL_sentence_157 : decode cL_sentence 157 = .ok (.isub, 1) := by decide +kernel
theorem dL_sentence_158 : decode cL_sentence 158 = .ok (.istore 12, 2) := by decide +kernel
theorem dL_sentence_160 : decode cL_sentence 160 = .ok (.aload 4, 2) := by decide +kernel
theorem dL_sentence_162 : decode cL_sentence 162 = .ok (.iload 6, 2) := by decide +kernel
theorem dL_sentence_164 : decode cL_sentence 164 = .ok (.iaload, 1) := by decide +kernel
theorem dL_sentence_165 : decode cL_sentence 165 = .ok (.sipush 129, 3) := by decide +kernel
theorem dL_sentence_168 : decode cL_sentence 168 = .ok (.idiv, 1) := by decide +kernel
theorem dL_sentence_169 : decode cL_sentence 169 = .ok (.sipush 129, 3) := by decide +kernel
theorem dL_sentence_172 : decode cL_sentence 172 = .ok (.irem, 1) := by decide +kernel
theorem dL_sentence_173 : decode cL_sentence 173 = .ok (.iconst 1, 1) := by decide +kernel
theorem dL_sentence_174 : decode cL_sentence 174 = .ok (.isub, 1) := by decide +kernel
theorem dL_sentence_175 : decode cL_sentence 175 = .ok (.istore 13, 2) := by decide +kernel
theorem dL_sentence_177 : decode cL_sentence 177 = .ok (.iload 11, 2) := by decide +kernel
theorem dL_sentence_179 : decode cL_sentence 179 = .ok (.iconst 1, 1) := by decide +kernel
theorem dL_sentence_180 : decode cL_sentence 180 = .ok (.if_icmp .ne 16, 3) := by decide +kernel
theorem dL_sentence_183 : decode cL_sentence 183 = .ok (.iload 10, 2) := by decide +kernel
theorem dL_sentence_185 : decode cL_sentence 185 = .ok (.ifCond .le 7, 3) := by decide +kernel
theorem dL_sentence_188 : decode cL_sentence 188 = .ok (.iconst 1, 1) := by decide +kernel
theorem dL_sentence_189 : decode cL_sentence 189 = .ok (.goto 28, 3) := by decide +kernel
theorem dL_sentence_192 : decode cL_sentence 192 = .ok (.iconst 0, 1) := by decide +kernel
theorem dL_sentence_193 : decode cL_sentence 193 = .ok (.goto 24, 3) := by decide +kernel
theorem dL_sentence_196 : decode cL_sentence 196 = .ok (.iload 11, 2) := by decide +kernel
theorem dL_sentence_198 : decode cL_sentence 198 = .ok (.iconst 2, 1) := by decide +kernel
theorem dL_sentence_199 : decode cL_sentence 199 = .ok (.if_icmp .ne 17, 3) := by decide +kernel
theorem dL_sentence_202 : decode cL_sentence 202 = .ok (.iload 10, 2) := by decide +kernel
theorem dL_sentence_204 : decode cL_sentence 204 = .ok (.iload 12, 2) := by decide +kernel
theorem dL_sentence_206 : decode cL_sentence 206 = .ok (.invokestatic 171, 3) := by decide +kernel
theorem dL_sentence_209 : decode cL_sentence 209 = .ok (.ifCond .ne 7, 3) := by decide +kernel
theorem dL_sentence_212 : decode cL_sentence 212 = .ok (.iconst 1, 1) := by decide +kernel
theorem dL_sentence_213 : decode cL_sentence 213 = .ok (.goto 4, 3) := by decide +kernel
theorem dL_sentence_216 : decode cL_sentence 216 = .ok (.iconst 0, 1) := by decide +kernel
theorem dL_sentence_217 : decode cL_sentence 217 = .ok (.istore 14, 2) := by decide +kernel
theorem dL_sentence_219 : decode cL_sentence 219 = .ok (.iload 14, 2) := by decide +kernel
theorem dL_sentence_221 : decode cL_sentence 221 = .ok (.ifCond .ne 44, 3) := by decide +kernel
theorem dL_sentence_224 : decode cL_sentence 224 = .ok (.iload 10, 2) := by decide +kernel
theorem dL_sentence_226 : decode cL_sentence 226 = .ok (.ifCond .le 39, 3) := by decide +kernel
theorem dL_sentence_229 : decode cL_sentence 229 = .ok (.iload 11, 2) := by decide +kernel
theorem dL_sentence_231 : decode cL_sentence 231 = .ok (.iconst 2, 1) := by decide +kernel
theorem dL_sentence_232 : decode cL_sentence 232 = .ok (.if_icmp .eq 29, 3) := by decide +kernel
theorem dL_sentence_235 : decode cL_sentence 235 = .ok (.iload 11, 2) := by decide +kernel
theorem dL_sentence_237 : decode cL_sentence 237 = .ok (.iconst 3, 1) := by decide +kernel
theorem dL_sentence_238 : decode cL_sentence 238 = .ok (.if_icmp .ne 27, 3) := by decide +kernel
theorem dL_sentence_241 : decode cL_sentence 241 = .ok (.iload 10, 2) := by decide +kernel
theorem dL_sentence_243 : decode cL_sentence 243 = .ok (.iload 12, 2) := by decide +kernel
theorem dL_sentence_245 : decode cL_sentence 245 = .ok (.invokestatic 171, 3) := by decide +kernel
theorem dL_sentence_248 : decode cL_sentence 248 = .ok (.ifCond .ne 13, 3) := by decide +kernel
theorem dL_sentence_251 : decode cL_sentence 251 = .ok (.iload 10, 2) := by decide +kernel
theorem dL_sentence_253 : decode cL_sentence 253 = .ok (.iload 13, 2) := by decide +kernel
theorem dL_sentence_255 : decode cL_sentence 255 = .ok (.invokestatic 171, 3) := by decide +kernel
theorem dL_sentence_258 : decode cL_sentence 258 = .ok (.ifCond .eq 7, 3) := by decide +kernel
theorem dL_sentence_261 : decode cL_sentence 261 = .ok (.iconst 1, 1) := by decide +kernel
theorem dL_sentence_262 : decode cL_sentence 262 = .ok (.goto 4, 3) := by decide +kernel
theorem dL_sentence_265 : decode cL_sentence 265 = .ok (.iconst 0, 1) := by decide +kernel
theorem dL_sentence_266 : decode cL_sentence 266 = .ok (.istore 15, 2) := by decide +kernel
theorem dL_sentence_268 : decode cL_sentence 268 = .ok (.iload 14, 2) := by decide +kernel
theorem dL_sentence_270 : decode cL_sentence 270 = .ok (.ifCond .eq 32, 3) := by decide +kernel
theorem dL_sentence_273 : decode cL_sentence 273 = .ok (.aload_n 2, 1) := by decide +kernel
theorem dL_sentence_274 : decode cL_sentence 274 = .ok (.iload 6, 2) := by decide +kernel
theorem dL_sentence_276 : decode cL_sentence 276 = .ok (.aload_n 2, 1) := by decide +kernel
theorem dL_sentence_277 : decode cL_sentence 277 = .ok (.iload 6, 2) := by decide +kernel
theorem dL_sentence_279 : decode cL_sentence 279 = .ok (.iaload, 1) := by decide +kernel
theorem dL_sentence_280 : decode cL_sentence 280 = .ok (.sipush 2048, 3) := by decide +kernel
theorem dL_sentence_283 : decode cL_sentence 283 = .ok (.irem, 1) := by decide +kernel
theorem dL_sentence_284 : decode cL_sentence 284 = .ok (.sipush 8192, 3) := by decide +kernel
theorem dL_sentence_287 : decode cL_sentence 287 = .ok (.iload 11, 2) := by decide +kernel
theorem dL_sentence_289 : decode cL_sentence 289 = .ok (.iconst 1, 1) := by decide +kernel
theorem dL_sentence_290 : decode cL_sentence 290 = .ok (.iadd, 1) := by decide +kernel
theorem dL_sentence_291 : decode cL_sentence 291 = .ok (.imul, 1) := by decide +kernel
theorem dL_sentence_292 : decode cL_sentence 292 = .ok (.iadd, 1) := by decide +kernel
theorem dL_sentence_293 : decode cL_sentence 293 = .ok (.iastore, 1) := by decide +kernel
theorem dL_sentence_294 : decode cL_sentence 294 = .ok (.aload_n 3, 1) := by decide +kernel
theorem dL_sentence_295 : decode cL_sentence 295 = .ok (.iload 6, 2) := by decide +kernel
theorem dL_sentence_297 : decode cL_sentence 297 = .ok (.iconst 0, 1) := by decide +kernel
theorem dL_sentence_298 : decode cL_sentence 298 = .ok (.iastore, 1) := by decide +kernel
theorem dL_sentence_299 : decode cL_sentence 299 = .ok (.goto 37, 3) := by decide +kernel
theorem dL_sentence_302 : decode cL_sentence 302 = .ok (.aload_n 2, 1) := by decide +kernel
theorem dL_sentence_303 : decode cL_sentence 303 = .ok (.iload 6, 2) := by decide +kernel
theorem dL_sentence_305 : decode cL_sentence 305 = .ok (.aload_n 2, 1) := by decide +kernel
theorem dL_sentence_306 : decode cL_sentence 306 = .ok (.iload 6, 2) := by decide +kernel
theorem dL_sentence_308 : decode cL_sentence 308 = .ok (.iaload, 1) := by decide +kernel
theorem dL_sentence_309 : decode cL_sentence 309 = .ok (.sipush 2048, 3) := by decide +kernel
theorem dL_sentence_312 : decode cL_sentence 312 = .ok (.irem, 1) := by decide +kernel
theorem dL_sentence_313 : decode cL_sentence 313 = .ok (.sipush 2048, 3) := by decide +kernel
theorem dL_sentence_316 : decode cL_sentence 316 = .ok (.iload 15, 2) := by decide +kernel
theorem dL_sentence_318 : decode cL_sentence 318 = .ok (.ifCond .eq 7, 3) := by decide +kernel
theorem dL_sentence_321 : decode cL_sentence 321 = .ok (.iconst 2, 1) := by decide +kernel
theorem dL_sentence_322 : decode cL_sentence 322 = .ok (.goto 4, 3) := by decide +kernel
theorem dL_sentence_325 : decode cL_sentence 325 = .ok (.iconst 3, 1) := by decide +kernel
theorem dL_sentence_326 : decode cL_sentence 326 = .ok (.imul, 1) := by decide +kernel
theorem dL_sentence_327 : decode cL_sentence 327 = .ok (.iadd, 1) := by decide +kernel
theorem dL_sentence_328 : decode cL_sentence 328 = .ok (.sipush 8192, 3) := by decide +kernel
theorem dL_sentence_331 : decode cL_sentence 331 = .ok (.iload 11, 2) := by decide +kernel
theorem dL_sentence_333 : decode cL_sentence 333 = .ok (.imul, 1) := by decide +kernel
theorem dL_sentence_334 : decode cL_sentence 334 = .ok (.iadd, 1) := by decide +kernel
theorem dL_sentence_335 : decode cL_sentence 335 = .ok (.iastore, 1) := by decide +kernel
theorem dL_sentence_336 : decode cL_sentence 336 = .ok (.iload 15, 2) := by decide +kernel
theorem dL_sentence_338 : decode cL_sentence 338 = .ok (.ifCond .eq 18, 3) := by decide +kernel
theorem dL_sentence_341 : decode cL_sentence 341 = .ok (.aload_n 0, 1) := by decide +kernel
theorem dL_sentence_342 : decode cL_sentence 342 = .ok (.aload_n 1, 1) := by decide +kernel
theorem dL_sentence_343 : decode cL_sentence 343 = .ok (.aload 5, 2) := by decide +kernel
theorem dL_sentence_345 : decode cL_sentence 345 = .ok (.aload_n 2, 1) := by decide +kernel
theorem dL_sentence_346 : decode cL_sentence 346 = .ok (.iload 6, 2) := by decide +kernel
theorem dL_sentence_348 : decode cL_sentence 348 = .ok (.iaload, 1) := by decide +kernel
theorem dL_sentence_349 : decode cL_sentence 349 = .ok (.bipush 16, 2) := by decide +kernel
theorem dL_sentence_351 : decode cL_sentence 351 = .ok (.irem, 1) := by decide +kernel
theorem dL_sentence_352 : decode cL_sentence 352 = .ok (.iconst 1, 1) := by decide +kernel
theorem dL_sentence_353 : decode cL_sentence 353 = .ok (.invokestatic 156, 3) := by decide +kernel
theorem dL_sentence_356 : decode cL_sentence 356 = .ok (.iload 10, 2) := by decide +kernel
theorem dL_sentence_358 : decode cL_sentence 358 = .ok (.ireturn, 1) := by decide +kernel
def tab_L_sentence : List (Nat × Sem) := [(0, op_al 3 1), (1, op_il 6 3), (3, op_iald 4), (4, op_ic 129 7), (7, op_dv (fun x y => irm x y) 8), (8, op_ic 1 9), (9, op_bin (fun x y => x - y) 10), (10, op_is 7 12), (12, op_al 3 13), (13, op_il 6 15), (15, op_iald 16), (16, op_ic 129 19), (19, op_dv (fun x y => x / y) 20), (20, op_ic 129 23), (23, op_dv (fun x y => irm x y) 24), (24, op_ic 1 25), (25, op_bin (fun x y => x - y) 26), (26, op_is 8 28), (28, op_al 3 29), (29, op_il 6 31), (31, op_iald 32), (32, op_ic 16641 35), (35, op_dv (fun x y => x / y) 36), (36, op_ic 1 37), (37, op_bin (fun x y => x - y) 38), (38, op_is 9 40), (40, op_ic 0 41), (41, op_is 10 43), (43, op_ic 0 44), (44, op_is 11 46), (46, op_il 11 48), (48, op_ic 7 50), (50, op_cmp (fun x y => y ≤ x) 99 53), (53, op_il 10 55), (55, op_il 7 57), (57, op_il 11 59), (59, op_bin (fun x y => x >>> (y &&& 31)) 60), (60, op_ic 1 61), (61, op_bin (fun x y => x &&& y) 62), (62, op_il 8 64), (64, op_il 11 66), (66, op_bin (fun x y => x >>> (y &&& 31)) 67), (67, op_ic 1 68), (68, op_bin (fun x y => x &&& y) 69), (69, op_bin (fun x y => x + y) 70), (70, op_il 9 72), (72, op_il 11 74), (74, op_bin (fun x y => x >>> (y &&& 31)) 75), (75, op_ic 1 76), (76, op_bin (fun x y => x &&& y) 77), (77, op_bin (fun x y => x + y) 78), (78, op_ic 1 79), (79, op_cmp (fun x y => x ≤ y) 89 82), (82, op_ic 1 83), (83, op_il 11 85), (85, op_bin (fun x y => x <<< (y &&& 31)) 86), (86, op_go 90), (89, op_ic 0 90), (90, op_bin (fun x y => x ||| y) 91), (91, op_is 10 93), (93, op_inc 11 1 96), (96, op_go 46), (99, op_al 2 100), (100, op_il 6 102), (102, op_iald 103), (103, op_ic 8192 106), (106, op_dv (fun x y => x / y) 107), (107, op_is 11 109), (109, op_al 4 111), (111, op_il 6 113), (113, op_dup2 114), (114, op_iald 115), (115, op_il 10 117), (117, op_ic 1 118), (118, op_bin (fun x y => x + y) 119), (119, op_il 11 121), (121, op_ic 1 122), (122, op_cmp (fun x y => ¬ x = y) 129 125), (125, op_ic 1 126), (126, op_go 144), (129, op_il 11 131), (131, op_ic 2 132), (132, op_cmp (fun x y => ¬ x = y) 141 135), (135, op_ic 129 138), (138, op_go 144), (141, op_ic 16641 144), (144, op_bin (fun x y => x * y) 145), (145, op_bin (fun x y => x + y) 146), (146, op_iast 147), (147, op_al 4 149), (149, op_il 6 151), (151, op_iald 152), (152, op_ic 129 155), (155, op_dv (fun x y => irm x y) 156), (156, op_ic 1 157), (157, op_bin (fun x y => x - y) 158), (158, op_is 12 160), (160, op_al 4 162), (162, op_il 6 164), (164, op_iald 165), (165, op_ic 129 168), (168, op_dv (fun x y => x / y) 169), (169, op_ic 129 172), (172, op_dv (fun x y => irm x y) 173), (173, op_ic 1 174), (174, op_bin (fun x y => x - y) 175), (175, op_is 13 177), (177, op_il 11 179), (179, op_ic 1 180), (180, op_cmp (fun x y => ¬ x = y) 196 183), (183, op_il 10 185), (185, op_if (fun x => x ≤ 0) 192 188), (188, op_ic 1 189), (189, op_go 217), (192, op_ic 0 193), (193, op_go 217), (196, op_il 11 198), (198, op_ic 2 199), (199, op_cmp (fun x y => ¬ x = y) 216 202), (202, op_il 10 204), (204, op_il 12 206), (206, op_callN sp_L_areLike 2 0 209), (209, op_if (fun x => ¬ x = 0) 216 212), (212, op_ic 1 213), (213, op_go 217), (216, op_ic 0 217), (217, op_is 14 219), (219, op_il 14 221), (221, op_if (fun x => ¬ x = 0) 265 224), (224, op_il 10 226), (226, op_if (fun x => x ≤ 0) 265 229), (229, op_il 11 231), (231, op_ic 2 232), (232, op_cmp (fun x y => x = y) 261 235), (235, op_il 11 237), (237, op_ic 3 238), (238, op_cmp (fun x y => ¬ x = y) 265 241), (241, op_il 10 243), (243, op_il 12 245), (245, op_callN sp_L_areLike 2 0 248), (248, op_if (fun x => ¬ x = 0) 261 251), (251, op_il 10 253), (253, op_il 13 255), (255, op_callN sp_L_areLike 2 0 258), (258, op_if (fun x => x = 0) 265 261), (261, op_ic 1 262), (262, op_go 266), (265, op_ic 0 266), (266, op_is 15 268), (268, op_il 14 270), (270, op_if (fun x => x = 0) 302 273), (273, op_al 2 274), (274, op_il 6 276), (276, op_al 2 277), (277, op_il 6 279), (279, op_iald 280), (280, op_ic 2048 283), (283, op_dv (fun x y => irm x y) 284), (284, op_ic 8192 287), (287, op_il 11 289), (289, op_ic 1 290), (290, op_bin (fun x y => x + y) 291), (291, op_bin (fun x y => x * y) 292), (292, op_bin (fun x y => x + y) 293), (293, op_iast 294), (294, op_al 3 295), (295, op_il 6 297), (297, op_ic 0 298), (298, op_iast 299), (299, op_go 336), (302, op_al 2 303), (303, op_il 6 305), (305, op_al 2 306), (306, op_il 6 308), (308, op_iald 309), (309, op_ic 2048 312), (312, op_dv (fun x y => irm x y) 313), (313, op_ic 2048 316), (316, op_il 15 318), (318, op_if (fun x => x = 0) 325 321), (321, op_ic 2 322), (322, op_go 326), (325, op_ic 3 326), (326, op_bin (fun x y => x * y) 327), (327, op_bin (fun x y => x + y) 328), (328, op_ic 8192 331), (331, op_il 11 333), (333, op_bin (fun x y => x * y) 334), (334, op_bin (fun x y => x + y) 335), (335, op_iast 336), (336, op_il 15 338), (338, op_if (fun x => x = 0) 356 341), (341, op_al 0 342), (342, op_al 1 343), (343, op_al 5 345), (345, op_al 2 346), (346, op_il 6 348), (348, op_iald 349), (349, op_ic 16 351), (351, op_dv (fun x y => irm x y) 352), (352, op_ic 1 353), (353, op_callN sp_L_changes 5 0 356), (356, op_il 10 358), (358, op_iret)]
set_option maxRecDepth 20000 in
theorem tok_L_sentence : ∀ q ∈ tab_L_sentence, Snd RL cL_sentence 16 1 0 (some .int) q.1 q.2 := by
  unfold tab_L_sentence
  refine tcons (ok_aload_n dL_sentence_0 rfl rfl) ?_
  refine tcons (ok_iload dL_sentence_1 rfl) ?_
  refine tcons (ok_iaload dL_sentence_3 rfl) ?_
  refine tcons (ok_sipush dL_sentence_4 rfl rfl) ?_
  refine tcons (ok_irem dL_sentence_7 rfl) ?_
  refine tcons (ok_iconst dL_sentence_8 rfl rfl) ?_
  refine tcons (ok_isub dL_sentence_9 rfl) ?_
  refine tcons (ok_istore dL_sentence_10 (by decide) rfl) ?_
  refine tcons (ok_aload_n dL_sentence_12 rfl rfl) ?_
  refine tcons (ok_iload dL_sentence_13 rfl) ?_
  refine tcons (ok_iaload dL_sentence_15 rfl) ?_
  refine tcons (ok_sipush dL_sentence_16 rfl rfl) ?_
  refine tcons (ok_idiv dL_sentence_19 rfl) ?_
  refine tcons (ok_sipush dL_sentence_20 rfl rfl) ?_
  refine tcons (ok_irem dL_sentence_23 rfl) ?_
  refine tcons (ok_iconst dL_sentence_24 rfl rfl) ?_
  refine tcons (ok_isub dL_sentence_25 rfl) ?_
  refine tcons (ok_istore dL_sentence_26 (by decide) rfl) ?_
  refine tcons (ok_aload_n dL_sentence_28 rfl rfl) ?_
  refine tcons (ok_iload dL_sentence_29 rfl) ?_
  refine tcons (ok_iaload dL_sentence_31 rfl) ?_
  refine tcons (ok_sipush dL_sentence_32 rfl rfl) ?_
  refine tcons (ok_idiv dL_sentence_35 rfl) ?_
  refine tcons (ok_iconst dL_sentence_36 rfl rfl) ?_
  refine tcons (ok_isub dL_sentence_37 rfl) ?_
  refine tcons (ok_istore dL_sentence_38 (by decide) rfl) ?_
  refine tcons (ok_iconst dL_sentence_40 rfl rfl) ?_
  refine tcons (ok_istore dL_sentence_41 (by decide) rfl) ?_
  refine tcons (ok_iconst dL_sentence_43 rfl rfl) ?_
  refine tcons (ok_istore dL_sentence_44 (by decide) rfl) ?_
  refine tcons (ok_iload dL_sentence_46 rfl) ?_
  refine tcons (ok_bipush dL_sentence_48 rfl rfl) ?_
  refine tcons (ok_icmp_ge dL_sentence_50 rfl rfl) ?_
  refine tcons (ok_iload dL_sentence_53 rfl) ?_
  refine tcons (ok_iload dL_sentence_55 rfl) ?_
  refine tcons (ok_iload dL_sentence_57 rfl) ?_
  refine tcons (ok_ishr dL_sentence_59 rfl) ?_
  refine tcons (ok_iconst dL_sentence_60 rfl rfl) ?_
  refine tcons (ok_iand dL_sentence_61 rfl) ?_
  refine tcons (ok_iload dL_sentence_62 rfl) ?_
  refine tcons (ok_iload dL_sentence_64 rfl) ?_
  refine tcons (ok_ishr dL_sentence_66 rfl) ?_
  refine tcons (ok_iconst dL_sentence_67 rfl rfl) ?_
  refine tcons (ok_iand dL_sentence_68 rfl) ?_
  refine tcons (ok_iadd dL_sentence_69 rfl) ?_
  refine tcons (ok_iload dL_sentence_70 rfl) ?_
  refine tcons (ok_iload dL_sentence_72 rfl) ?_
  refine tcons (ok_ishr dL_sentence_74 rfl) ?_
  refine tcons (ok_iconst dL_sentence_75 rfl rfl) ?_
  refine tcons (ok_iand dL_sentence_76 rfl) ?_
  refine tcons (ok_iadd dL_sentence_77 rfl) ?_
  refine tcons (ok_iconst dL_sentence_78 rfl rfl) ?_
  refine tcons (ok_icmp_le dL_sentence_79 rfl rfl) ?_
  refine tcons (ok_iconst dL_sentence_82 rfl rfl) ?_
  refine tcons (ok_iload dL_sentence_83 rfl) ?_
  refine tcons (ok_ishl dL_sentence_85 rfl) ?_
  refine tcons (ok_goto dL_sentence_86 rfl) ?_
  refine tcons (ok_iconst dL_sentence_89 rfl rfl) ?_
  refine tcons (ok_ior dL_sentence_90 rfl) ?_
  refine tcons (ok_istore dL_sentence_91 (by decide) rfl) ?_
  refine tcons (ok_iinc dL_sentence_93 rfl (by decide) rfl) ?_
  refine tcons (ok_goto dL_sentence_96 rfl) ?_
  refine tcons (ok_aload_n dL_sentence_99 rfl rfl) ?_
  refine tcons (ok_iload dL_sentence_100 rfl) ?_
  refine tcons (ok_iaload dL_sentence_102 rfl) ?_
  refine tcons (ok_sipush dL_sentence_103 rfl rfl) ?_
  refine tcons (ok_idiv dL_sentence_106 rfl) ?_
  refine tcons (ok_istore dL_sentence_107 (by decide) rfl) ?_
  refine tcons (ok_aload dL_sentence_109 rfl) ?_
  refine tcons (ok_iload dL_sentence_111 rfl) ?_
  refine tcons (ok_dup2 dL_sentence_113 rfl) ?_
  refine tcons (ok_iaload dL_sentence_114 rfl) ?_
  refine tcons (ok_iload dL_sentence_115 rfl) ?_
  refine tcons (ok_iconst dL_sentence_117 rfl rfl) ?_
  refine tcons (ok_iadd dL_sentence_118 rfl) ?_
  refine tcons (ok_iload dL_sentence_119 rfl) ?_
  refine tcons (ok_iconst dL_sentence_121 rfl rfl) ?_
  refine tcons (ok_icmp_ne dL_sentence_122 rfl rfl) ?_
  refine tcons (ok_iconst dL_sentence_125 rfl rfl) ?_
  refine tcons (ok_goto dL_sentence_126 rfl) ?_
  refine tcons (ok_iload dL_sentence_129 rfl) ?_
  refine tcons (ok_iconst dL_sentence_131 rfl rfl) ?_
  refine tcons (ok_icmp_ne dL_sentence_132 rfl rfl) ?_
  refine tcons (ok_sipush dL_sentence_135 rfl rfl) ?_
  refine tcons (ok_goto dL_sentence_138 rfl) ?_
  refine tcons (ok_sipush dL_sentence_141 rfl rfl) ?_
  refine tcons (ok_imul dL_sentence_144 rfl) ?_
  refine tcons (ok_iadd dL_sentence_145 rfl) ?_
  refine tcons (ok_iastore dL_sentence_146 rfl) ?_
  refine tcons (ok_aload dL_sentence_147 rfl) ?_
  refine tcons (ok_iload dL_sentence_149 rfl) ?_
  refine tcons (ok_iaload dL_sentence_151 rfl) ?_
  refine tcons (ok_sipush dL_sentence_152 rfl rfl) ?_
  refine tcons (ok_irem dL_sentence_155 rfl) ?_
  refine tcons (ok_iconst dL_sentence_156 rfl rfl) ?_
  refine tcons (ok_isub dL_sentence_157 rfl) ?_
  refine tcons (ok_istore dL_sentence_158 (by decide) rfl) ?_
  refine tcons (ok_aload dL_sentence_160 rfl) ?_
  refine tcons (ok_iload dL_sentence_162 rfl) ?_
  refine tcons (ok_iaload dL_sentence_164 rfl) ?_
  refine tcons (ok_sipush dL_sentence_165 rfl rfl) ?_
  refine tcons (ok_idiv dL_sentence_168 rfl) ?_
  refine tcons (ok_sipush dL_sentence_169 rfl rfl) ?_
  refine tcons (ok_irem dL_sentence_172 rfl) ?_
  refine tcons (ok_iconst dL_sentence_173 rfl rfl) ?_
  refine tcons (ok_isub dL_sentence_174 rfl) ?_
  refine tcons (ok_istore dL_sentence_175 (by decide) rfl) ?_
  refine tcons (ok_iload dL_sentence_177 rfl) ?_
  refine tcons (ok_iconst dL_sentence_179 rfl rfl) ?_
  refine tcons (ok_icmp_ne dL_sentence_180 rfl rfl) ?_
  refine tcons (ok_iload dL_sentence_183 rfl) ?_
  refine tcons (ok_if_le dL_sentence_185 rfl rfl) ?_
  refine tcons (ok_iconst dL_sentence_188 rfl rfl) ?_
  refine tcons (ok_goto dL_sentence_189 rfl) ?_
  refine tcons (ok_iconst dL_sentence_192 rfl rfl) ?_
  refine tcons (ok_goto dL_sentence_193 rfl) ?_
  refine tcons (ok_iload dL_sentence_196 rfl) ?_
  refine tcons (ok_iconst dL_sentence_198 rfl rfl) ?_
  refine tcons (ok_icmp_ne dL_sentence_199 rfl rfl) ?_
  refine tcons (ok_iload dL_sentence_202 rfl) ?_
  refine tcons (ok_iload dL_sentence_204 rfl) ?_
  refine tcons (ok_invokestaticN M_L_areLike w_943 w_944 w_19 w_945 ⟨by decide, by decide, by decide +kernel⟩ (by decide) (by decide) dL_sentence_206 rfl) ?_
  refine tcons (ok_if_ne dL_sentence_209 rfl rfl) ?_
  refine tcons (ok_iconst dL_sentence_212 rfl rfl) ?_
  refine tcons (ok_goto dL_sentence_213 rfl) ?_
  refine tcons (ok_iconst dL_sentence_216 rfl rfl) ?_
  refine tcons (ok_istore dL_sentence_217 (by decide) rfl) ?_
  refine tcons (ok_iload dL_sentence_219 rfl) ?_
  refine tcons (ok_if_ne dL_sentence_221 rfl rfl) ?_
  refine tcons (ok_iload dL_sentence_224 rfl) ?_
  refine tcons (ok_if_le dL_sentence_226 rfl rfl) ?_
  refine tcons (ok_iload dL_sentence_229 rfl) ?_
  refine tcons (ok_iconst dL_sentence_231 rfl rfl) ?_
  refine tcons (ok_icmp_eq dL_sentence_232 rfl rfl) ?_
  refine tcons (ok_iload dL_sentence_235 rfl) ?_
  refine tcons (ok_iconst dL_sentence_237 rfl rfl) ?_
  refine tcons (ok_icmp_ne dL_sentence_238 rfl rfl) ?_
  refine tcons (ok_iload dL_sentence_241 rfl) ?_
  refine tcons (ok_iload dL_sentence_243 rfl) ?_
  refine tcons (ok_invokestaticN M_L_areLike w_943 w_944 w_19 w_945 ⟨by decide, by decide, by decide +kernel⟩ (by decide) (by decide) dL_sentence_245 rfl) ?_
  refine tcons (ok_if_ne dL_sentence_248 rfl rfl) ?_
  refine tcons (ok_iload dL_sentence_251 rfl) ?_
  refine tcons (ok_iload dL_sentence_253 rfl) ?_
  refine tcons (ok_invokestaticN M_L_areLike w_943 w_944 w_19 w_945 ⟨by decide, by decide, by decide +kernel⟩ (by decide) (by decide) dL_sentence_255 rfl) ?_
  refine tcons (ok_if_eq dL_sentence_258 rfl rfl) ?_
  refine tcons (ok_iconst dL_sentence_261 rfl rfl) ?_
  refine tcons (ok_goto dL_sentence_262 rfl) ?_
  refine tcons (ok_iconst dL_sentence_265 rfl rfl) ?_
  refine tcons (ok_istore dL_sentence_266 (by decide) rfl) ?_
  refine tcons (ok_iload dL_sentence_268 rfl) ?_
  refine tcons (ok_if_eq dL_sentence_270 rfl rfl) ?_
  refine tcons (ok_aload_n dL_sentence_273 rfl rfl) ?_
  refine tcons (ok_iload dL_sentence_274 rfl) ?_
  refine tcons (ok_aload_n dL_sentence_276 rfl rfl) ?_
  refine tcons (ok_iload dL_sentence_277 rfl) ?_
  refine tcons (ok_iaload dL_sentence_279 rfl) ?_
  refine tcons (ok_sipush dL_sentence_280 rfl rfl) ?_
  refine tcons (ok_irem dL_sentence_283 rfl) ?_
  refine tcons (ok_sipush dL_sentence_284 rfl rfl) ?_
  refine tcons (ok_iload dL_sentence_287 rfl) ?_
  refine tcons (ok_iconst dL_sentence_289 rfl rfl) ?_
  refine tcons (ok_iadd dL_sentence_290 rfl) ?_
  refine tcons (ok_imul dL_sentence_291 rfl) ?_
  refine tcons (ok_iadd dL_sentence_292 rfl) ?_
  refine tcons (ok_iastore dL_sentence_293 rfl) ?_
  refine tcons (ok_aload_n dL_sentence_294 rfl rfl) ?_
  refine tcons (ok_iload dL_sentence_295 rfl) ?_
  refine tcons (ok_iconst dL_sentence_297 rfl rfl) ?_
  refine tcons (ok_iastore dL_sentence_298 rfl) ?_
  refine tcons (ok_goto dL_sentence_299 rfl) ?_
  refine tcons (ok_aload_n dL_sentence_302 rfl rfl) ?_
  refine tcons (ok_iload dL_sentence_303 rfl) ?_
  refine tcons (ok_aload_n dL_sentence_305 rfl rfl) ?_
  refine tcons (ok_iload dL_sentence_306 rfl) ?_
  refine tcons (ok_iaload dL_sentence_308 rfl) ?_
  refine tcons (ok_sipush dL_sentence_309 rfl rfl) ?_
  refine tcons (ok_irem dL_sentence_312 rfl) ?_
  refine tcons (ok_sipush dL_sentence_313 rfl rfl) ?_
  refine tcons (ok_iload dL_sentence_316 rfl) ?_
  refine tcons (ok_if_eq dL_sentence_318 rfl rfl) ?_
  refine tcons (ok_iconst dL_sentence_321 rfl rfl) ?_
  refine tcons (ok_goto dL_sentence_322 rfl) ?_
  refine tcons (ok_iconst dL_sentence_325 rfl rfl) ?_
  refine tcons (ok_imul dL_sentence_326 rfl) ?_
  refine tcons (ok_iadd dL_sentence_327 rfl) ?_
  refine tcons (ok_sipush dL_sentence_328 rfl rfl) ?_
  refine tcons (ok_iload dL_sentence_331 rfl) ?_
  refine tcons (ok_imul dL_sentence_333 rfl) ?_
  refine tcons (ok_iadd dL_sentence_334 rfl) ?_
  refine tcons (ok_iastore dL_sentence_335 rfl) ?_
  refine tcons (ok_iload dL_sentence_336 rfl) ?_
  refine tcons (ok_if_eq dL_sentence_338 rfl rfl) ?_
  refine tcons (ok_aload_n dL_sentence_341 rfl rfl) ?_
  refine tcons (ok_aload_n dL_sentence_342 rfl rfl) ?_
  refine tcons (ok_aload dL_sentence_343 rfl) ?_
  refine tcons (ok_aload_n dL_sentence_345 rfl rfl) ?_
  refine tcons (ok_iload dL_sentence_346 rfl) ?_
  refine tcons (ok_iaload dL_sentence_348 rfl) ?_
  refine tcons (ok_bipush dL_sentence_349 rfl rfl) ?_
  refine tcons (ok_irem dL_sentence_351 rfl) ?_
  refine tcons (ok_iconst dL_sentence_352 rfl rfl) ?_
  refine tcons (ok_invokestaticN M_L_changes w_915 w_916 w_19 w_917 ⟨by decide, by decide, by decide +kernel⟩ (by decide) (by decide) dL_sentence_353 rfl) ?_
  refine tcons (ok_iload dL_sentence_356 rfl) ?_
  refine tcons (ok_ireturn rfl dL_sentence_358) ?_
  exact fun _ h => nomatch h
def sp_L_sentence : Spc := fun av s N _ => match av with
  | [.inl (.inr (24, 0)), .inl (.inr (25, 0)), .inl (.inr (26, 0)), .inl (.inr (28, 0)), .inl (.inr (29, 0)), .inl (.inr (30, 0)), .inl (.inl c)] => ∃ i vw db st ins a b d x y z one oth pl lk vs la : Nat, i < 8 ∧ c = nI i ∧ cR s i vw db st ins ∧ (a < 128 ∧ b < 128 ∧ d < 128) ∧ s.2.1 28 0 i = nI (pk3 (a + 1) (b + 1) (d + 1)) ∧ (x < 129 ∧ y < 129 ∧ z < 129) ∧ s.2.1 29 0 i = nI (pk3 x y z) ∧
    ((ins = 1 ∧ x = 0) ∨ (ins = 2 ∧ 0 < x ∧ y = 0) ∨ (ins = 3 ∧ 0 < x ∧ 0 < y ∧ z = 0)) ∧ vR s vw one oth pl lk vs la ∧
    N (some (aI (nI (majL a b d 7)))) (seV (seG (seE s i ins (majL a b d 7) x y z) i vw db ins (goesL ins (majL a b d 7) x) (nulL ins (majL a b d 7) x y)) vw one oth pl lk vs la (nulL ins (majL a b d 7) x y))
  | _ => False
def seL (i : Nat) (one two three set k : Int32) : LC := [(0, .inr (24, 0)), (1, .inr (25, 0)), (2, .inr (26, 0)), (3, .inr (28, 0)), (4, .inr (29, 0)), (5, .inr (30, 0)), (6, .inl (nI i)), (7, .inl one), (8, .inl two), (9, .inl three), (10, .inl set), (11, .inl k)]
/-- the end: what it writes -/
theorem sent_end {N : Nt} {X : Xt} {Z : Kt} (run : Rn tab_L_sentence 0 N X Z) {S1 : Sg} {i vw db st ins m one oth pl lk vs la : Nat} {o1 o2 o3 bef mid g : Int32} {G nul : Prop} (hi : i < 8) (hins : 1 ≤ ins ∧ ins ≤ 3) (hG : Bv g G) (hGn : nul → ¬ G) (hGi : G → ins ≤ 2)
    (hc : cR S1 i vw db st ins) (hv : vR S1 vw one oth pl lk vs la) (h : N (some (aI (nI m))) (seV (seG S1 i vw db ins G nul) vw one oth pl lk vs la nul)) : ∀ nl : Int32, Bv nl nul →
    Z 266 0 [(0, .inr (24, 0)), (1, .inr (25, 0)), (2, .inr (26, 0)), (3, .inr (28, 0)), (4, .inr (29, 0)), (5, .inr (30, 0)), (6, .inl (nI i)), (7, .inl o1), (8, .inl o2), (9, .inl o3), (10, .inl (nI m)), (11, .inl (nI ins)), (12, .inl bef), (13, .inl mid), (14, .inl g)] [aI nl] S1 := by
  intro nl hnl
  have hvw := hc.1.1
  have hdb := hc.1.2.1
  have ci : (nI i).toNatClampNeg = i := nI_clamp (by omega)
  have hb9 : Ib (nI i) 9 := nIb (by omega) (by decide)
  have eC := hc.2
  have e2048 : irm (nI (pkC vw db st ins)) 2048 = nI (vw + 16 * db) := by
    rw [show (2048 : Int32) = nI 2048 from rfl, irmN (cR_lt hc) (by decide) (by decide)]
    have := hc.1
    unfold pkC
    congr 1
    omega
  -- behind the writing
  have j336 : ∀ S2 : Sg, S2 = seG S1 i vw db ins G nul → Z 336 0 [(0, .inr (24, 0)), (1, .inr (25, 0)), (2, .inr (26, 0)), (3, .inr (28, 0)), (4, .inr (29, 0)), (5, .inr (30, 0)), (6, .inl (nI i)), (7, .inl o1), (8, .inl o2), (9, .inl o3), (10, .inl (nI m)), (11, .inl (nI ins)), (12, .inl bef), (13, .inl mid), (14, .inl g), (15, .inl nl)] [] S2 := by
    intro S2 hS2
    rw [← hS2] at h
    have c24 : ∀ c, S2.2.1 24 0 c = S1.2.1 24 0 c := by
      intro c
      rw [hS2]
      unfold seG
      by_cases hg : G
      · rw [iteP_t hg, stS_get, if_neg (by omega), stS_get, if_neg (by omega)]
      · rw [iteP_f hg, stS_get, if_neg (by omega)]
    have hv2 : vR S2 vw one oth pl lk vs la := ⟨hv.1, (c24 vw).trans hv.2⟩
    rcases hnl with ⟨rfl, hn⟩ | ⟨rfl, hn⟩
    · have hG2 := hGn hn
      have hc2 : cR S2 i vw db 2 ins := by
        refine ⟨⟨hc.1.1, hc.1.2.1, by decide, hc.1.2.2.2⟩, ?_⟩
        rw [hS2]
        unfold seG
        rw [iteP_f hG2, iteP_t hn, stS_get, if_pos ⟨rfl, rfl, rfl⟩]
      have e16 := cR_vw hc2
      unfold seV at h
      rw [iteP_t hn] at h
      have fin : Z 356 0 [(0, .inr (24, 0)), (1, .inr (25, 0)), (2, .inr (26, 0)), (3, .inr (28, 0)), (4, .inr (29, 0)), (5, .inr (30, 0)), (6, .inl (nI i)), (7, .inl o1), (8, .inl o2), (9, .inl o3), (10, .inl (nI m)), (11, .inl (nI ins)), (12, .inl bef), (13, .inl mid), (14, .inl g), (15, .inl 1)] [] (chV one oth pl lk vs la 1 S2 vw) := by
        refine run.go [] 20 ?_
        exact ⟨Nat.le_refl _, h⟩
      refine run.go [356] 40 ?_
      repeat' (first | apply And.intro | (intro q; exact absurd q (by decide)) | (intro q; exact absurd (by decide) q) | (intro q; exact absurd rfl q) | intro _)
      all_goals first | (exact hb9) | (exact trivial) | decide | (exact (rfl : (0 : Nat) = 0)) | (exact Nat.le_of_ble_eq_true rfl) | contradiction | skip
      rw [ci]
      dsimp only
      rw [e16]
      refine ⟨fun r s' => r = none ∧ s' = chV one oth pl lk vs la 1 S2 vw, ⟨vw, one, oth, pl, lk, vs, la, 1, hvw, rfl, by decide, rfl, hv2, rfl, rfl⟩, ?_⟩
      rintro r s' ⟨rfl, rfl⟩
      exact fin
    · unfold seV at h
      rw [iteP_f hn] at h
      refine run.go [] 40 ?_
      repeat' (first | apply And.intro | (intro q; exact absurd q (by decide)) | (intro q; exact absurd (by decide) q) | (intro q; exact absurd rfl q) | intro _)
      all_goals first | (exact trivial) | decide | (exact (rfl : (0 : Nat) = 0)) | (exact Nat.le_of_ble_eq_true rfl) | contradiction | exact h
  rcases hG with ⟨rfl, hG⟩ | ⟨rfl, hG⟩
  · have hn : ¬ nul := fun q => hGn q hG
    have e := j336 (stS (stS S1 26 0 i (nI (pkC vw db 0 (ins + 1)))) 28 0 i 0) (by unfold seG; rw [iteP_t hG])
    have e5 : irm (nI (pkC vw db st ins)) 2048 + 8192 * (nI ins + 1) = nI (pkC vw db 0 (ins + 1)) := by
      rw [e2048, nIs, show (8192 : Int32) = nI 8192 from rfl, pk_mul, nI_add]
      unfold pkC
      congr 1
    rw [← e5, ← eC, ← ci] at e
    rw [ci] at e
    refine run.go [336] 40 ?_
    repeat' (first | apply And.intro | (intro q; exact absurd q (by decide)) | (intro q; exact absurd (by decide) q) | (intro q; exact absurd rfl q) | intro _)
    all_goals first | (exact hb9) | (exact trivial) | decide | (exact (rfl : (0 : Nat) = 0)) | (exact Nat.le_of_ble_eq_true rfl) | contradiction | skip
    rw [ci]
    exact e
  · have j326 : ∀ w : Int32, w = nI (iteP nul 2 3) → Z 326 0 [(0, .inr (24, 0)), (1, .inr (25, 0)), (2, .inr (26, 0)), (3, .inr (28, 0)), (4, .inr (29, 0)), (5, .inr (30, 0)), (6, .inl (nI i)), (7, .inl o1), (8, .inl o2), (9, .inl o3), (10, .inl (nI m)), (11, .inl (nI ins)), (12, .inl bef), (13, .inl mid), (14, .inl 0), (15, .inl nl)] [aI w, aI 2048, aI (irm (S1.2.1 26 0 i) 2048), aI (nI i), aR 26 0] S1 := by
      rintro w rfl
      have e := j336 (stS S1 26 0 i (nI (pkC vw db (iteP nul 2 3) ins))) (by unfold seG; rw [iteP_f hG])
      have e5 : irm (S1.2.1 26 0 i) 2048 + 2048 * nI (iteP nul 2 3) + 8192 * nI ins = nI (pkC vw db (iteP nul 2 3) ins) := by
        rw [eC, e2048, show (8192 : Int32) = nI 8192 from rfl, show (2048 : Int32) = nI 2048 from rfl, pk_mul, pk_mul, nI_add, nI_add]
        rfl
      rw [← e5] at e
      refine run.go [336] 40 ?_
      repeat' (first | apply And.intro | (intro q; exact absurd q (by decide)) | (intro q; exact absurd (by decide) q) | (intro q; exact absurd rfl q) | intro _)
      all_goals first | (exact hb9) | (exact trivial) | decide | (exact (rfl : (0 : Nat) = 0)) | (exact Nat.le_of_ble_eq_true rfl) | contradiction | skip
      rw [ci]
      exact e
    rcases hnl with ⟨rfl, hn⟩ | ⟨rfl, hn⟩
    · refine run.go [326] 40 ?_
      repeat' (first | apply And.intro | (intro q; exact absurd q (by decide)) | (intro q; exact absurd (by decide) q) | (intro q; exact absurd rfl q) | intro _)
      all_goals first | (exact hb9) | (exact trivial) | decide | (exact (rfl : (0 : Nat) = 0)) | (exact Nat.le_of_ble_eq_true rfl) | contradiction | skip
      rw [ci]
      exact j326 _ (by rw [iteP_t hn]; rfl)
    · refine run.go [326] 40 ?_
      repeat' (first | apply And.intro | (intro q; exact absurd q (by decide)) | (intro q; exact absurd (by decide) q) | (intro q; exact absurd rfl q) | intro _)
      all_goals first | (exact hb9) | (exact trivial) | decide | (exact (rfl : (0 : Nat) = 0)) | (exact Nat.le_of_ble_eq_true rfl) | contradiction | skip
      rw [ci]
      exact j326 _ (by rw [iteP_f hn]; rfl)
/-- what it finds of the sentences -/
theorem sent_mid {N : Nt} {X : Xt} {Z : Kt} (run : Rn tab_L_sentence 0 N X Z) {S1 : Sg} {i vw db st ins m x1 y1 one oth pl lk vs la : Nat} {o1 o2 o3 : Int32} (hi : i < 8) (hm : m < 128) (hx : x1 < 129) (hy : y1 < 129) (h1 : 0 < x1) (h3 : ins = 3 → 0 < y1) (hins : 1 ≤ ins ∧ ins ≤ 3)
    (hc : cR S1 i vw db st ins) (hv : vR S1 vw one oth pl lk vs la) {G nul : Prop} (hG : G ↔ goesL ins m x1) (hN : nul ↔ nulL ins m x1 y1) (h : N (some (aI (nI m))) (seV (seG S1 i vw db ins G nul) vw one oth pl lk vs la nul)) {mid : Int32} (hmid : 0 < y1 → mid = nI (y1 - 1)) :
    Z 177 0 [(0, .inr (24, 0)), (1, .inr (25, 0)), (2, .inr (26, 0)), (3, .inr (28, 0)), (4, .inr (29, 0)), (5, .inr (30, 0)), (6, .inl (nI i)), (7, .inl o1), (8, .inl o2), (9, .inl o3), (10, .inl (nI m)), (11, .inl (nI ins)), (12, .inl (nI (x1 - 1))), (13, .inl mid)] [] S1 := by
  have e1 : nI ins = 1 ↔ ins = 1 := nI_eq (b := 1) (by omega) (by decide)
  have e2 : nI ins = 2 ↔ ins = 2 := nI_eq (b := 2) (by omega) (by decide)
  have e3 : nI ins = 3 ↔ ins = 3 := nI_eq (b := 3) (by omega) (by decide)
  have em : nI m ≤ 0 ↔ m ≤ 0 := nI_leI (b := 0) (by omega) (by decide)
  have al : ∀ b : Nat, b < 128 → sp_L_areLike [aI (nI m), aI (nI b)] S1 (fun r s' => s' = S1 ∧ ∃ y : Int32, r = some (aI y) ∧ Bv y (likeL m b)) X := fun b hb => ⟨m, b, hm, hb, rfl, rfl, ⟨fun q => ⟨rfl, _, rfl, Bv_t q⟩, fun q => ⟨rfl, _, rfl, Bv_f q⟩⟩⟩
  have j266 : ∀ g : Int32, Bv g G → ∀ nl : Int32, Bv nl nul → Z 266 0 [(0, .inr (24, 0)), (1, .inr (25, 0)), (2, .inr (26, 0)), (3, .inr (28, 0)), (4, .inr (29, 0)), (5, .inr (30, 0)), (6, .inl (nI i)), (7, .inl o1), (8, .inl o2), (9, .inl o3), (10, .inl (nI m)), (11, .inl (nI ins)), (12, .inl (nI (x1 - 1))), (13, .inl mid), (14, .inl g)] [aI nl] S1 :=
    fun g hg => sent_end run hi hins hg (fun q => fun z => (hN.mp q).1 (hG.mp z)) (fun z => (hG.mp z).elim (fun q => by omega) (fun q => by omega)) hc hv h
  have j217 : ∀ g : Int32, Bv g G → Z 217 0 [(0, .inr (24, 0)), (1, .inr (25, 0)), (2, .inr (26, 0)), (3, .inr (28, 0)), (4, .inr (29, 0)), (5, .inr (30, 0)), (6, .inl (nI i)), (7, .inl o1), (8, .inl o2), (9, .inl o3), (10, .inl (nI m)), (11, .inl (nI ins)), (12, .inl (nI (x1 - 1))), (13, .inl mid)] [aI g] S1 := by
    intro g hg
    have j2 := j266 g hg
    rcases hg with ⟨rfl, hg⟩ | ⟨rfl, hg⟩
    · refine run.go [266] 40 ?_
      repeat' (first | apply And.intro | (intro q; exact absurd q (by decide)) | (intro q; exact absurd (by decide) q) | (intro q; exact absurd rfl q) | intro _)
      all_goals first | (exact trivial) | decide | (exact (rfl : (0 : Nat) = 0)) | (exact Nat.le_of_ble_eq_true rfl) | contradiction | (exact j2 _ (Bv_f (fun q => (hN.mp q).1 (hG.mp hg))))
    · have ng : ¬ goesL ins m x1 := fun q => hg (hG.mpr q)
      -- the second of the earlier ones
      have j251 : ins = 3 → 0 < m → ¬ likeL m (x1 - 1) → Z 251 0 [(0, .inr (24, 0)), (1, .inr (25, 0)), (2, .inr (26, 0)), (3, .inr (28, 0)), (4, .inr (29, 0)), (5, .inr (30, 0)), (6, .inl (nI i)), (7, .inl o1), (8, .inl o2), (9, .inl o3), (10, .inl (nI m)), (11, .inl (nI ins)), (12, .inl (nI (x1 - 1))), (13, .inl mid), (14, .inl 0)] [] S1 := by
        intro hi3 hm0 hl
        rw [hmid (h3 hi3)] at j2 ⊢
        refine run.go [266] 40 ?_
        refine ⟨by decide, by decide, _, al (y1 - 1) (by omega), ?_⟩
        rintro r s' ⟨rfl, w, rfl, hw⟩
        rcases hw with ⟨rfl, hw⟩ | ⟨rfl, hw⟩
        · repeat' (first | apply And.intro | (intro q; exact absurd q (by decide)) | (intro q; exact absurd (by decide) q) | (intro q; exact absurd rfl q) | intro _)
          all_goals first | (exact trivial) | decide | (exact (rfl : (0 : Nat) = 0)) | (exact Nat.le_of_ble_eq_true rfl) | contradiction | (exact j2 _ (Bv_t (hN.mpr ⟨ng, hm0, Or.inr ⟨hi3, Or.inr hw⟩⟩)))
        · repeat' (first | apply And.intro | (intro q; exact absurd q (by decide)) | (intro q; exact absurd (by decide) q) | (intro q; exact absurd rfl q) | intro _)
          all_goals first | (exact trivial) | decide | (exact (rfl : (0 : Nat) = 0)) | (exact Nat.le_of_ble_eq_true rfl) | contradiction | (exact j2 _ (Bv_f (fun q => (hN.mp q).2.2.elim (fun z => by omega) (fun z => z.2.elim hl hw))))
      have j241 : ins = 3 → 0 < m → Z 241 0 [(0, .inr (24, 0)), (1, .inr (25, 0)), (2, .inr (26, 0)), (3, .inr (28, 0)), (4, .inr (29, 0)), (5, .inr (30, 0)), (6, .inl (nI i)), (7, .inl o1), (8, .inl o2), (9, .inl o3), (10, .inl (nI m)), (11, .inl (nI ins)), (12, .inl (nI (x1 - 1))), (13, .inl mid), (14, .inl 0)] [] S1 := by
        intro hi3 hm0
        refine run.go [251, 266] 40 ?_
        refine ⟨by decide, by decide, _, al (x1 - 1) (by omega), ?_⟩
        rintro r s' ⟨rfl, w, rfl, hw⟩
        rcases hw with ⟨rfl, hw⟩ | ⟨rfl, hw⟩
        · repeat' (first | apply And.intro | (intro q; exact absurd q (by decide)) | (intro q; exact absurd (by decide) q) | (intro q; exact absurd rfl q) | intro _)
          all_goals first | (exact trivial) | decide | (exact (rfl : (0 : Nat) = 0)) | (exact Nat.le_of_ble_eq_true rfl) | contradiction | (exact j2 _ (Bv_t (hN.mpr ⟨ng, hm0, Or.inr ⟨hi3, Or.inl hw⟩⟩)))
        · repeat' (first | apply And.intro | (intro q; exact absurd q (by decide)) | (intro q; exact absurd (by decide) q) | (intro q; exact absurd rfl q) | intro _)
          all_goals first | (exact trivial) | decide | (exact (rfl : (0 : Nat) = 0)) | (exact Nat.le_of_ble_eq_true rfl) | contradiction | (exact j251 hi3 hm0 hw)
      refine run.go [241, 266] 40 ?_
      repeat' (first | apply And.intro | (intro q; exact absurd q (by decide)) | (intro q; exact absurd (by decide) q) | (intro q; exact absurd rfl q) | intro _)
      all_goals first | (exact trivial) | decide | (exact (rfl : (0 : Nat) = 0)) | (exact Nat.le_of_ble_eq_true rfl) | contradiction | skip
      all_goals (simp only [e2, e3, em] at *)
      all_goals first
        | (exact j2 _ (Bv_f (fun q => by have z := hN.mp q; have z1 := z.2.1; omega)))
        | (exact j2 _ (Bv_t (hN.mpr ⟨ng, by omega, Or.inl (by omega)⟩)))
        | (exact j241 (by omega) (by omega))
        | (exact j2 _ (Bv_f (fun q => by have z := (hN.mp q).2.2; omega)))
  have j202 : ins = 2 → Z 202 0 [(0, .inr (24, 0)), (1, .inr (25, 0)), (2, .inr (26, 0)), (3, .inr (28, 0)), (4, .inr (29, 0)), (5, .inr (30, 0)), (6, .inl (nI i)), (7, .inl o1), (8, .inl o2), (9, .inl o3), (10, .inl (nI m)), (11, .inl (nI ins)), (12, .inl (nI (x1 - 1))), (13, .inl mid)] [] S1 := by
    intro hi2
    refine run.go [217] 40 ?_
    refine ⟨by decide, by decide, _, al (x1 - 1) (by omega), ?_⟩
    rintro r s' ⟨rfl, w, rfl, hw⟩
    rcases hw with ⟨rfl, hw⟩ | ⟨rfl, hw⟩
    · repeat' (first | apply And.intro | (intro q; exact absurd q (by decide)) | (intro q; exact absurd (by decide) q) | (intro q; exact absurd rfl q) | intro _)
      all_goals first | (exact trivial) | decide | (exact (rfl : (0 : Nat) = 0)) | (exact Nat.le_of_ble_eq_true rfl) | contradiction | (exact j217 _ (Bv_f (fun q => (hG.mp q).elim (fun z => by omega) (fun z => z.2 hw))))
    · repeat' (first | apply And.intro | (intro q; exact absurd q (by decide)) | (intro q; exact absurd (by decide) q) | (intro q; exact absurd rfl q) | intro _)
      all_goals first | (exact trivial) | decide | (exact (rfl : (0 : Nat) = 0)) | (exact Nat.le_of_ble_eq_true rfl) | contradiction | (exact j217 _ (Bv_t (hG.mpr (Or.inr ⟨hi2, hw⟩))))
  refine run.go [202, 217] 40 ?_
  repeat' (first | apply And.intro | (intro q; exact absurd q (by decide)) | (intro q; exact absurd (by decide) q) | (intro q; exact absurd rfl q) | intro _)
  all_goals first | (exact trivial) | decide | (exact (rfl : (0 : Nat) = 0)) | (exact Nat.le_of_ble_eq_true rfl) | contradiction | skip
  all_goals (simp only [e1, e2, em] at *)
  all_goals first
    | (exact j217 _ (Bv_t (hG.mpr (Or.inl ⟨by omega, by omega⟩))))
    | (exact j202 (by omega))
    | (exact j217 _ (Bv_f (fun q => by have z := hG.mp q; unfold goesL at z; omega)))
theorem majL_s {x y z k : Nat} {v : Int32} (h : v = nI (if 1 < x / 2 ^ k % 2 + y / 2 ^ k % 2 + z / 2 ^ k % 2 then 2 ^ k else 0)) (hk : k < 7) : nI (majL x y z k) ||| v = nI (majL x y z (k + 1)) := by
  have h1 := majL_lt (x := x) (y := y) (z := z) k (by omega)
  rw [h, orN (by omega) (by split <;> first | (exact Nat.pow_lt_pow_right (by decide) (by omega)) | decide)]
  rfl
set_option maxRecDepth 20000 in
set_option maxHeartbeats 2000000 in
theorem M_L_sentence : AMet yL_sentence cL_sentence 16 (some .int) 1 0 sp_L_sentence := by
  refine AMet.rn (own := RL) (by decide) rfl [0, 1, 2, 3, 4, 5, 6, 7, 8, 9, 10, 11, 12, 13, 14, 15] rfl tok_L_sentence ?_
  intro av s0 N X h Z run
  unfold sp_L_sentence at h
  split at h
  rotate_left
  · exact h.elim
  rename_i c
  obtain ⟨i, vw, db, st, ins, a, b, d, x, y, z, one, oth, pl, lk, vs, la, hi, rfl, hc, ⟨ha, hb, hd⟩, hq, ⟨hx, hy, hz⟩, he, hins, hv, h⟩ := h
  have ci : (nI i).toNatClampNeg = i := nI_clamp (by omega)
  have hb9 : Ib (nI i) 9 := nIb (by omega) (by decide)
  have q1 := pk3_a (a := a + 1) (b := b + 1) (c := d + 1) (by omega) (by omega) (by omega)
  have q2 := pk3_b (a := a + 1) (b := b + 1) (c := d + 1) (by omega) (by omega) (by omega)
  have q3 := pk3_c (a := a + 1) (b := b + 1) (c := d + 1) (by omega) (by omega) (by omega)
  have m1 : ∀ n : Nat, nI (n + 1) - 1 = nI n := nI_pred
  obtain ⟨m, hm⟩ : ∃ m, m = majL a b d 7 := ⟨_, rfl⟩
  have hm1 : m < 128 := by rw [hm]; exact majL_lt 7 (Nat.le_refl _)
  rw [← hm] at h
  obtain ⟨x1, hx1⟩ : ∃ x1, x1 = sx ins m x := ⟨_, rfl⟩
  obtain ⟨y1, hy1⟩ : ∃ y1, y1 = sy ins m y := ⟨_, rfl⟩
  obtain ⟨z1, hz1⟩ : ∃ z1, z1 = sz ins m z := ⟨_, rfl⟩
  have hx9 : x1 < 129 ∧ 0 < x1 ∧ (¬ ins = 1 → x1 = x) := by rw [hx1]; unfold sx; split <;> omega
  have hy9 : y1 < 129 ∧ (ins = 3 → y1 = y) := by rw [hy1]; unfold sy; split <;> omega
  have hz9 : z1 < 129 := by rw [hz1]; unfold sz; split <;> omega
  have i13 : 1 ≤ ins ∧ ins ≤ 3 := by omega
  have w1 := pk3_a (a := x1) (b := y1) (c := z1) (by omega) (by omega) (by omega)
  have w2 := pk3_b (a := x1) (b := y1) (c := z1) (by omega) (by omega) (by omega)
  -- behind the new sentence
  have j147 : ∀ v : Int32, v = nI (pk3 x1 y1 z1) → Z 147 0 [(0, .inr (24, 0)), (1, .inr (25, 0)), (2, .inr (26, 0)), (3, .inr (28, 0)), (4, .inr (29, 0)), (5, .inr (30, 0)), (6, .inl (nI i)), (7, .inl (nI a)), (8, .inl (nI b)), (9, .inl (nI d)), (10, .inl (nI m)), (11, .inl (nI ins))] [] (stS s0 29 0 i v) := by
    rintro v rfl
    have hS : stS s0 29 0 i (nI (pk3 x1 y1 z1)) = seE s0 i ins m x y z := by rw [hx1, hy1, hz1]; rfl
    have g29 : (stS s0 29 0 i (nI (pk3 x1 y1 z1))).2.1 29 0 i = nI (pk3 x1 y1 z1) := if_pos ⟨rfl, rfl, rfl⟩
    have hc2 : cR (seE s0 i ins m x y z) i vw db st ins := ⟨hc.1, by rw [← hS, stS_get, if_neg (by omega)]; exact hc.2⟩
    have hv2 : vR (seE s0 i ins m x y z) vw one oth pl lk vs la := ⟨hv.1, by rw [← hS, stS_get, if_neg (by omega)]; exact hv.2⟩
    have t : ∀ mid : Int32, (0 < y1 → mid = nI (y1 - 1)) → Z 177 0 [(0, .inr (24, 0)), (1, .inr (25, 0)), (2, .inr (26, 0)), (3, .inr (28, 0)), (4, .inr (29, 0)), (5, .inr (30, 0)), (6, .inl (nI i)), (7, .inl (nI a)), (8, .inl (nI b)), (9, .inl (nI d)), (10, .inl (nI m)), (11, .inl (nI ins)), (12, .inl (nI (x1 - 1))), (13, .inl mid)] [] (stS s0 29 0 i (nI (pk3 x1 y1 z1))) := by
      intro mid hmid
      rw [hS]
      refine sent_mid run hi hm1 hx9.1 hy9.1 hx9.2.1 (fun q => by rw [hy9.2 q]; omega) i13 hc2 hv2 (G := goesL ins m x) (nul := nulL ins m x y) ?_ ?_ h hmid
      · unfold goesL
        by_cases q : ins = 1
        · simp [q]
        · rw [hx9.2.2 q]
      · unfold nulL goesL
        by_cases q : ins = 1
        · simp [q]
        · rw [hx9.2.2 q]
          by_cases q3 : ins = 3
          · rw [hy9.2 q3]
          · simp [q3]
    have e12 : irm ((stS s0 29 0 i (nI (pk3 x1 y1 z1))).2.1 29 0 i) 129 - 1 = nI (x1 - 1) := by rw [g29, w1]; exact pk_sub (b := 1) (by omega)
    have e13 : 0 < y1 → irm ((stS s0 29 0 i (nI (pk3 x1 y1 z1))).2.1 29 0 i / 129) 129 - 1 = nI (y1 - 1) := fun q => by rw [g29, w2]; exact pk_sub (b := 1) (by omega)
    have t2 := t _ e13
    rw [← e12] at t2
    refine run.go [177] 60 ?_
    repeat' (first | apply And.intro | (intro q; exact absurd q (by decide)) | (intro q; exact absurd (by decide) q) | (intro q; exact absurd rfl q) | intro _)
    all_goals first | (exact hb9) | (exact trivial) | decide | (exact (rfl : (0 : Nat) = 0)) | (exact Nat.le_of_ble_eq_true rfl) | contradiction | skip
    rw [ci]
    exact t2
  have r29 : (nI m + 1) = nI (m + 1) := nIs m
  have j144 : ∀ w : Nat, (ins = 1 → w = 1) → (ins = 2 → w = 129) → (ins = 3 → w = 16641) → Z 144 0 [(0, .inr (24, 0)), (1, .inr (25, 0)), (2, .inr (26, 0)), (3, .inr (28, 0)), (4, .inr (29, 0)), (5, .inr (30, 0)), (6, .inl (nI i)), (7, .inl (nI a)), (8, .inl (nI b)), (9, .inl (nI d)), (10, .inl (nI m)), (11, .inl (nI ins))] [aI (nI w), aI (nI m + 1), aI (s0.2.1 29 0 i), aI (nI i), aR 29 0] s0 := by
    intro w f1 f2 f3
    have e : s0.2.1 29 0 i + (nI m + 1) * nI w = nI (pk3 x1 y1 z1) := by
      rw [he, r29, pk_mul, nI_add, hx1, hy1, hz1]
      congr 1
      unfold pk3 sx sy sz
      rcases hins with ⟨q, q2⟩ | ⟨q, q2, q4⟩ | ⟨q, q2, q4, q5⟩
      · rw [f1 q, if_pos q, if_neg (by omega), if_neg (by omega)]; omega
      · rw [f2 q, if_neg (by omega), if_pos q, if_neg (by omega)]; omega
      · rw [f3 q, if_neg (by omega), if_neg (by omega), if_pos q]; omega
    have z := j147 _ e
    refine run.go [147] 20 ?_
    repeat' (first | apply And.intro | (intro q; exact absurd q (by decide)) | (intro q; exact absurd (by decide) q) | (intro q; exact absurd rfl q) | intro _)
    all_goals first | (exact hb9) | (exact trivial) | decide | (exact (rfl : (0 : Nat) = 0)) | (exact Nat.le_of_ble_eq_true rfl) | contradiction | skip
    rw [ci]
    exact z
  have j99 : Z 99 0 [(0, .inr (24, 0)), (1, .inr (25, 0)), (2, .inr (26, 0)), (3, .inr (28, 0)), (4, .inr (29, 0)), (5, .inr (30, 0)), (6, .inl (nI i)), (7, .inl (nI a)), (8, .inl (nI b)), (9, .inl (nI d)), (10, .inl (nI m)), (11, .inl 7)] [] s0 := by
    have e8 := cR_in hc
    have e1 : nI ins = 1 ↔ ins = 1 := nI_eq (b := 1) (by omega) (by decide)
    have e2 : nI ins = 2 ↔ ins = 2 := nI_eq (b := 2) (by omega) (by decide)
    have j107 : Z 107 0 [(0, .inr (24, 0)), (1, .inr (25, 0)), (2, .inr (26, 0)), (3, .inr (28, 0)), (4, .inr (29, 0)), (5, .inr (30, 0)), (6, .inl (nI i)), (7, .inl (nI a)), (8, .inl (nI b)), (9, .inl (nI d)), (10, .inl (nI m)), (11, .inl 7)] [aI (nI ins)] s0 := by
      refine run.go [144] 40 ?_
      repeat' (first | apply And.intro | (intro q; exact absurd q (by decide)) | (intro q; exact absurd (by decide) q) | (intro q; exact absurd rfl q) | intro _)
      all_goals first | (exact hb9) | (exact trivial) | decide | (exact (rfl : (0 : Nat) = 0)) | (exact Nat.le_of_ble_eq_true rfl) | contradiction | skip
      all_goals (rw [ci])
      all_goals (simp only [e1, e2] at *)
      · exact j144 16641 (fun q => by omega) (fun q => by omega) (fun _ => rfl)
      · exact j144 129 (fun q => by omega) (fun _ => rfl) (fun q => by omega)
      · exact j144 1 (fun _ => rfl) (fun q => by omega) (fun q => by omega)
    refine run.go [107] 40 ?_
    repeat' (first | apply And.intro | (intro q; exact absurd q (by decide)) | (intro q; exact absurd (by decide) q) | (intro q; exact absurd rfl q) | intro _)
    all_goals first | (exact hb9) | (exact trivial) | decide | (exact (rfl : (0 : Nat) = 0)) | (exact Nat.le_of_ble_eq_true rfl) | contradiction | skip
    rw [ci]
    dsimp only
    rw [e8]
    exact j107
  have lp := loop_up (n := 7) (P := fun k => Z 46 0 [(0, .inr (24, 0)), (1, .inr (25, 0)), (2, .inr (26, 0)), (3, .inr (28, 0)), (4, .inr (29, 0)), (5, .inr (30, 0)), (6, .inl (nI i)), (7, .inl (nI a)), (8, .inl (nI b)), (9, .inl (nI d)), (10, .inl (nI (majL a b d k))), (11, .inl (nI k))] [] s0) ?_ ?_ 0 (Nat.zero_le _)
  · have f1 : irm (s0.2.1 28 0 i) 129 - 1 = nI a := by rw [hq, q1, m1]
    have f2 : irm (s0.2.1 28 0 i / 129) 129 - 1 = nI b := by rw [hq, q2, m1]
    have f3 : s0.2.1 28 0 i / 16641 - 1 = nI d := by rw [hq, q3, m1]
    have lp2 : ∀ o1 o2 o3 : Int32, o1 = nI a → o2 = nI b → o3 = nI d → Z 46 0 [(0, .inr (24, 0)), (1, .inr (25, 0)), (2, .inr (26, 0)), (3, .inr (28, 0)), (4, .inr (29, 0)), (5, .inr (30, 0)), (6, .inl (nI i)), (7, .inl o1), (8, .inl o2), (9, .inl o3), (10, .inl (nI (majL a b d 0))), (11, .inl (nI 0))] [] s0 := by
      rintro _ _ _ rfl rfl rfl
      exact lp
    refine run.go [46] 60 ?_
    repeat' (first | apply And.intro | (intro q; exact absurd q (by decide)) | (intro q; exact absurd (by decide) q) | (intro q; exact absurd rfl q) | intro _)
    all_goals first | (exact hb9) | (exact trivial) | decide | (exact (rfl : (0 : Nat) = 0)) | (exact Nat.le_of_ble_eq_true rfl) | contradiction | skip
    rw [ci]
    exact lp2 _ _ _ f1 f2 f3
  · have hle : (7 : Int32) ≤ nI 7 := by decide
    rw [← hm]
    refine run.go [99] 20 ?_
    repeat' (first | apply And.intro | (intro q; exact absurd q (by decide)) | (intro q; exact absurd (by decide) q) | (intro q; exact absurd rfl q) | (intro q; exact absurd q hle) | (intro q; exact absurd hle q) | intro _)
    all_goals first | (exact trivial) | decide | (exact (rfl : (0 : Nat) = 0)) | (exact Nat.le_of_ble_eq_true rfl) | contradiction | exact j99
  · intro k hk ih
    have hle : ¬ (7 : Int32) ≤ nI k := nI_ge (b := 7) hk (by decide)
    have b1 := bitN (x := a) (k := k) (by omega) (by omega)
    have b2 := bitN (x := b) (k := k) (by omega) (by omega)
    have b3 := bitN (x := d) (k := k) (by omega) (by omega)
    have j : ∀ v : Int32, v = nI (if 1 < a / 2 ^ k % 2 + b / 2 ^ k % 2 + d / 2 ^ k % 2 then 2 ^ k else 0) → Z 90 0 [(0, .inr (24, 0)), (1, .inr (25, 0)), (2, .inr (26, 0)), (3, .inr (28, 0)), (4, .inr (29, 0)), (5, .inr (30, 0)), (6, .inl (nI i)), (7, .inl (nI a)), (8, .inl (nI b)), (9, .inl (nI d)), (10, .inl (nI (majL a b d k))), (11, .inl (nI k))] [aI v, aI (nI (majL a b d k))] s0 := by
      intro v hv9
      rw [← majL_s hv9 hk, ← nIs] at ih
      exact run.go [46] 20 ih
    refine run.go [90] 60 ?_
    repeat' (first | apply And.intro | (intro q; exact absurd q (by decide)) | (intro q; exact absurd (by decide) q) | (intro q; exact absurd rfl q) | (intro q; exact absurd q hle) | (intro q; exact absurd hle q) | intro _)
    all_goals first | (exact trivial) | decide | (exact (rfl : (0 : Nat) = 0)) | (exact Nat.le_of_ble_eq_true rfl) | contradiction | skip
    all_goals (simp only [b1, b2, b3, nI_add] at *)
    · rename_i q
      refine j _ ?_
      have := (nI_leI (b := 1) (by omega) (by decide)).mp q
      rw [if_neg (by omega)]
      rfl
    · rename_i q
      refine j _ ?_
      have z := fun w => q ((nI_leI (b := 1) (by omega) (by decide)).mpr w)
      rw [if_pos (Nat.not_le.mp z)]
      exact shlN (by omega)

