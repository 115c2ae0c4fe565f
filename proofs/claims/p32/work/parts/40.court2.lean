/-! VowCourt's own: persons, vows, causes by their numbers -/
theorem w_0 : (.selects "VowCourt" ⟨"VowCourt", "isPerson", "(I)Z"⟩ ⟨"VowCourt", "isPerson", "(I)Z"⟩ : Cond) ∈ TB := TB_mem (List.mem_of_getElem? (i := 0) (by decide +kernel)) rfl
theorem w_5 : (.selects "VowCourt" ⟨"VowCourt", "personAt", "(I)LVowCourt$Person;"⟩ ⟨"VowCourt", "personAt", "(I)LVowCourt$Person;"⟩ : Cond) ∈ TB := TB_mem (List.mem_of_getElem? (i := 5) (by decide +kernel)) rfl
theorem w_16 : (.selects "VowCourt" ⟨"VowCourt", "livesAt", "(II)Z"⟩ ⟨"VowCourt", "livesAt", "(II)Z"⟩ : Cond) ∈ TB := TB_mem (List.mem_of_getElem? (i := 16) (by decide +kernel)) rfl
theorem w_20 : (.initialized "VowCourt" : Cond) ∈ TB := TB_mem (List.mem_of_getElem? (i := 20) (by decide +kernel)) rfl
theorem w_99 : (.fieldLink "VowCourt" 16 "VowCourt" "vows" "Ljava/util/ArrayList;" : Cond) ∈ TB := TB_mem (List.mem_of_getElem? (i := 99) (by decide +kernel)) rfl
theorem w_100 : (.fieldLink "VowCourt" 19 "VowCourt" "causes" "Ljava/util/ArrayList;" : Cond) ∈ TB := TB_mem (List.mem_of_getElem? (i := 100) (by decide +kernel)) rfl
theorem w_105 : (.fieldLink "VowCourt" 41 "VowCourt" "today" "I" : Cond) ∈ TB := TB_mem (List.mem_of_getElem? (i := 105) (by decide +kernel)) rfl
theorem w_138 : (.methodLink "VowCourt" 45 ⟨"VowCourt", "isPerson", "(I)Z"⟩ : Cond) ∈ TB := TB_mem (List.mem_of_getElem? (i := 138) (by decide +kernel)) rfl
theorem w_140 : (.instanceMethod ⟨"VowCourt", "isPerson", "(I)Z"⟩ : Cond) ∈ TB := TB_mem (List.mem_of_getElem? (i := 140) (by decide +kernel)) rfl
theorem w_141 : (.code yX4_isPerson cX4_isPerson 2 (some .boolean) : Cond) ∈ TB := TB_mem (List.mem_of_getElem? (i := 141) (by decide +kernel)) rfl
theorem w_146 : (.methodLink "VowCourt" 49 ⟨"VowCourt", "checkIndex", "(Z)V"⟩ : Cond) ∈ TB := TB_mem (List.mem_of_getElem? (i := 146) (by decide +kernel)) rfl
theorem w_147 : (.static ⟨"VowCourt", "checkIndex", "(Z)V"⟩ : Cond) ∈ TB := TB_mem (List.mem_of_getElem? (i := 147) (by decide +kernel)) rfl
theorem w_148 : (.code yX4_checkIndex cX4_checkIndex 1 none : Cond) ∈ TB := TB_mem (List.mem_of_getElem? (i := 148) (by decide +kernel)) rfl
theorem w_270 : (.classLink "VowCourt" 71 "VowCourt$Person" : Cond) ∈ TB := TB_mem (List.mem_of_getElem? (i := 270) (by decide +kernel)) rfl
theorem w_277 : (.fieldLink "VowCourt" 260 "VowCourt$Person" "born" "I" : Cond) ∈ TB := TB_mem (List.mem_of_getElem? (i := 277) (by decide +kernel)) rfl
theorem w_279 : (.fieldLink "VowCourt" 87 "VowCourt$Person" "homeNow" "I" : Cond) ∈ TB := TB_mem (List.mem_of_getElem? (i := 279) (by decide +kernel)) rfl
theorem w_287 : (.fieldLink "VowCourt" 90 "VowCourt$Person" "lives" "Z" : Cond) ∈ TB := TB_mem (List.mem_of_getElem? (i := 287) (by decide +kernel)) rfl
theorem w_321 : (.static Lib.Math.max.name : Cond) ∈ TB := TB_mem (List.mem_of_getElem? (i := 321) (by decide +kernel)) rfl
theorem w_322 : (.code Lib.Math.max.name Lib.Math.max.code 2 (some .int) : Cond) ∈ TB := TB_mem (List.mem_of_getElem? (i := 322) (by decide +kernel)) rfl
theorem w_360 : (.methodLink "VowCourt" 80 ⟨"VowCourt", "personAt", "(I)LVowCourt$Person;"⟩ : Cond) ∈ TB := TB_mem (List.mem_of_getElem? (i := 360) (by decide +kernel)) rfl
theorem w_362 : (.instanceMethod ⟨"VowCourt", "personAt", "(I)LVowCourt$Person;"⟩ : Cond) ∈ TB := TB_mem (List.mem_of_getElem? (i := 362) (by decide +kernel)) rfl
theorem w_363 : (.code yX4_personAt cX4_personAt 2 (some (.object "VowCourt$Person")) : Cond) ∈ TB := TB_mem (List.mem_of_getElem? (i := 363) (by decide +kernel)) rfl
theorem w_364 : (.methodLink "VowCourt" 253 ⟨"java/util/ArrayList", "get", "(I)Ljava/lang/Object;"⟩ : Cond) ∈ TB := TB_mem (List.mem_of_getElem? (i := 364) (by decide +kernel)) rfl
theorem w_365 : (.instanceMethod ⟨"java/util/ArrayList", "get", "(I)Ljava/lang/Object;"⟩ : Cond) ∈ TB := TB_mem (List.mem_of_getElem? (i := 365) (by decide +kernel)) rfl
theorem w_366 : (.selects "java/util/ArrayList" ⟨"java/util/ArrayList", "get", "(I)Ljava/lang/Object;"⟩ ⟨"java/util/ArrayList", "get", "(I)Ljava/lang/Object;"⟩ : Cond) ∈ TB := TB_mem (List.mem_of_getElem? (i := 366) (by decide +kernel)) rfl
theorem w_367 : (.code yJx4a65c_get_915e3 cJx4a65c_get_915e3 2 (some (.object "java/lang/Object")) : Cond) ∈ TB := TB_mem (List.mem_of_getElem? (i := 367) (by decide +kernel)) rfl
theorem w_401 : (.classLink "VowCourt" 119 "VowCourt$Vow" : Cond) ∈ TB := TB_mem (List.mem_of_getElem? (i := 401) (by decide +kernel)) rfl
theorem w_425 : (.methodLink "VowCourt" 263 Lib.Math.max.name : Cond) ∈ TB := TB_mem (List.mem_of_getElem? (i := 425) (by decide +kernel)) rfl
theorem w_467 : (.fieldLink "VowCourt" 268 "VowCourt$Vow" "one" "I" : Cond) ∈ TB := TB_mem (List.mem_of_getElem? (i := 467) (by decide +kernel)) rfl
theorem w_469 : (.fieldLink "VowCourt" 271 "VowCourt$Vow" "other" "I" : Cond) ∈ TB := TB_mem (List.mem_of_getElem? (i := 469) (by decide +kernel)) rfl
theorem w_471 : (.fieldLink "VowCourt" 209 "VowCourt$Vow" "place" "I" : Cond) ∈ TB := TB_mem (List.mem_of_getElem? (i := 471) (by decide +kernel)) rfl
theorem w_533 : (.classLink "VowCourt" 153 "VowCourt$Cause" : Cond) ∈ TB := TB_mem (List.mem_of_getElem? (i := 533) (by decide +kernel)) rfl
theorem w_557 : (.methodLink "VowCourt" 286 ⟨"VowCourt", "livesAt", "(II)Z"⟩ : Cond) ∈ TB := TB_mem (List.mem_of_getElem? (i := 557) (by decide +kernel)) rfl
theorem w_559 : (.instanceMethod ⟨"VowCourt", "livesAt", "(II)Z"⟩ : Cond) ∈ TB := TB_mem (List.mem_of_getElem? (i := 559) (by decide +kernel)) rfl
theorem w_560 : (.code yX4_livesAt cX4_livesAt 4 (some .boolean) : Cond) ∈ TB := TB_mem (List.mem_of_getElem? (i := 560) (by decide +kernel)) rfl
theorem iC_mk {s : Sg} {k : Nat} {j : Int32} (h0 : ¬ j < 0) (h1 : ¬ nI (s.1 k) ≤ j) : iC s k j := eq_true ⟨Int32.not_lt.mp h0, Int32.not_le.mp h1⟩
theorem iC_n0 {s : Sg} {k : Nat} {j : Int32} (h : j < 0) : ¬ iC s k j := fun q => Int32.not_lt.mpr (iC0 q) h
theorem iC_n1 {s : Sg} {k : Nat} {j : Int32} (h : nI (s.1 k) ≤ j) : ¬ iC s k j := fun q => Int32.not_le.mpr (iC1 q) h
def CI (s : Sg) : Prop := (Gd s 0 ∧ Gd s 1 ∧ Gd s 2 ∧ s.1 0 ≤ 24 ∧ (∀ v, Lv s 13 v → iC s 0 (s.2.1 13 v 0) ∧ iC s 0 (s.2.1 13 v 1)) ∧ (∀ c, Lv s 14 c → iC s 1 (s.2.1 14 c 0))) = True
theorem CI_0 {s : Sg} (h : CI s) : Gd s 0 := (of_eq_true h).1
theorem CI_1 {s : Sg} (h : CI s) : Gd s 1 := (of_eq_true h).2.1
theorem CI_2 {s : Sg} (h : CI s) : Gd s 2 := (of_eq_true h).2.2.1
theorem Gd_lt {s : Sg} {k : Nat} (h : Gd s k) : s.1 k < 100 := Nat.lt_of_le_of_lt (of_eq_true h).1 (of_eq_true h).2
theorem iC_p {s : Sg} {j : Int32} (hC : CI s) (h : iC s 0 j) : Lv s 12 (cl j) := Nat.lt_of_lt_of_le (inC_cl (iC0 h) (iC1 h) (by have := Gd_lt (CI_0 hC); omega)) (Nat.le_add_right _ _)
theorem iC_v {s : Sg} {j : Int32} (hC : CI s) (h : iC s 1 j) : Lv s 13 (cl j) := Nat.lt_of_lt_of_le (inC_cl (iC0 h) (iC1 h) (by have := Gd_lt (CI_1 hC); omega)) (Nat.le_add_right _ _)
theorem iC_c {s : Sg} {j : Int32} (hC : CI s) (h : iC s 2 j) : Lv s 14 (cl j) := Nat.lt_of_lt_of_le (inC_cl (iC0 h) (iC1 h) (by have := Gd_lt (CI_2 hC); omega)) (Nat.le_add_right _ _)
theorem iC_I {s : Sg} {j : Int32} (hC : CI s) (h : iC s 0 j) : Ib j 24 := by
  have h1 := Gd_lt (CI_0 hC)
  have h2 := (of_eq_true hC).2.2.2.1
  obtain ⟨i, hi, rfl⟩ := inC_nI (iC0 h) (iC1 h) (by omega)
  exact nIb (by omega) (by decide)
theorem CI_one {s : Sg} {v : Nat} (hC : CI s) (h : Lv s 13 v) : iC s 0 (s.2.1 13 v 0) := ((of_eq_true hC).2.2.2.2.1 v h).1
theorem CI_other {s : Sg} {v : Nat} (hC : CI s) (h : Lv s 13 v) : iC s 0 (s.2.1 13 v 1) := ((of_eq_true hC).2.2.2.2.1 v h).2
theorem CI_of {s : Sg} {c : Nat} (hC : CI s) (h : Lv s 14 c) : iC s 1 (s.2.1 14 c 0) := (of_eq_true hC).2.2.2.2.2 c h
theorem dX4_personAt_0 : decode cX4_personAt 0 = .ok (.aload_n 0, 1) := by decide +kernel
theorem dX4_personAt_1 : decode cX4_personAt 1 = .ok (.iload_n 1, 1) := by decide +kernel
theorem dX4_personAt_2 : decode cX4_personAt 2 = .ok (.invokevirtual 45, 3) := by decide +kernel
theorem dX4_personAt_5 : decode cX4_personAt 5 = .ok (.invokestatic 49, 3) := by decide +kernel
theorem dX4_personAt_8 : decode cX4_personAt 8 = .ok (.aload_n 0, 1) := by decide +kernel
theorem dX4_personAt_9 : decode cX4_personAt 9 = .ok (.getfield 12, 3) := by decide +kernel
theorem dX4_personAt_12 : decode cX4_personAt 12 = .ok (.iload_n 1, 1) := by decide +kernel
theorem dX4_personAt_13 : decode cX4_personAt 13 = .ok (.invokevirtual 253, 3) := by decide +kernel
theorem dX4_personAt_16 : decode cX4_personAt 16 = .ok (.checkcast 71, 3) := by decide +kernel
theorem dX4_personAt_19 : decode cX4_personAt 19 = .ok (.areturn, 1) := by decide +kernel
def tab_X4_personAt : List (Nat × Sem) := [(0, op_al 0 1), (1, op_il 1 2), (2, op_callV 6 sp_X4_isPerson 2 0 5), (5, op_call sp_X4_checkIndex 1 1 8), (8, op_al 0 9), (9, op_gf 6 0 12), (12, op_il 1 13), (13, op_callV 1 sp_Jx4a65c_get_915e3 2 0 16), (16, op_cc 4 19), (19, op_aret)]
set_option maxRecDepth 20000 in
theorem tok_X4_personAt : ∀ q ∈ tab_X4_personAt, Snd RX4 cX4_personAt 2 7 1 (some (.object "VowCourt$Person")) q.1 q.2 := by
  unfold tab_X4_personAt
  refine tcons (ok_aload_n dX4_personAt_0 rfl rfl) ?_
  refine tcons (ok_iload_n dX4_personAt_1 rfl rfl) ?_
  refine tcons (ok_invokevirtual M_X4_isPerson (C := RX4) (T := TX4) (nf := 8) rfl w_138 w_140 w_0 w_20 w_141 ⟨rfl, by decide, by decide, by decide +kernel⟩ (by decide) (by decide) dX4_personAt_2 rfl) ?_
  refine tcons (ok_invokestatic M_X4_checkIndex w_146 w_147 w_20 w_148 ⟨by decide, by decide, by decide +kernel⟩ (by decide) (by decide) dX4_personAt_5 rfl) ?_
  refine tcons (ok_aload_n dX4_personAt_8 rfl rfl) ?_
  refine tcons (ok_getfield (C := RX4) (T := TX4) (n := 8) rfl in_X4 (by decide) w_98 dX4_personAt_9 rfl) ?_
  refine tcons (ok_iload_n dX4_personAt_12 rfl rfl) ?_
  refine tcons (ok_invokevirtual M_Jx4a65c_get_915e3 (C := RJx4a65c) (T := TJx4a65c) (nf := 3) rfl w_364 w_365 w_366 w_23 w_367 ⟨rfl, by decide, by decide, by decide +kernel⟩ (by decide) (by decide) dX4_personAt_13 rfl) ?_
  refine tcons (ok_checkcast (C := RX2) (T := TX2) (n := 6) rfl w_270 dX4_personAt_16 rfl) ?_
  refine tcons (ok_areturn rfl dX4_personAt_19) ?_
  exact fun _ h => nomatch h
def sp_X4_personAt : Spc := fun av s N X => match av with
  | [.inl (.inr (1, 0)), .inl (.inl p)] => CI s ∧ (¬ iC s 0 p → X 1 s) ∧ (iC s 0 p → N (some (aR 12 (cl p))) s)
  | _ => False
set_option maxRecDepth 20000 in
set_option maxHeartbeats 2000000 in
theorem M_X4_personAt : AMet yX4_personAt cX4_personAt 2 (some (.object "VowCourt$Person")) 7 1 sp_X4_personAt := by
  refine AMet.mk (own := RX4) (by decide) rfl [0, 1] rfl tok_X4_personAt 200 ?_
  intro av s0 N X h
  unfold sp_X4_personAt at h
  split at h
  rotate_left
  · exact h.elim
  refine ⟨fun _ => none, ?_, fun pc P hP => nomatch hP⟩
  repeat' (first | apply And.intro | (intro q; exact absurd q (by decide)) | intro _)
  all_goals first | decide | (exact (rfl : (0 : Nat) = 0)) | (exact Nat.le_of_ble_eq_true rfl) | (exact CI_0 h.1) | (exact iC0 (by assumption)) | (exact iC1 (by assumption)) | (exact iC_p h.1 (by assumption)) | (exact h.2.1 (by assumption)) | (exact h.2.2 (by assumption))
theorem dX4_vowAt_0 : decode cX4_vowAt 0 = .ok (.iload_n 1, 1) := by decide +kernel
theorem dX4_vowAt_1 : decode cX4_vowAt 1 = .ok (.ifCond .lt 18, 3) := by decide +kernel
theorem dX4_vowAt_4 : decode cX4_vowAt 4 = .ok (.iload_n 1, 1) := by decide +kernel
theorem dX4_vowAt_5 : decode cX4_vowAt 5 = .ok (.aload_n 0, 1) := by decide +kernel
theorem dX4_vowAt_6 : decode cX4_vowAt 6 = .ok (.getfield 16, 3) := by decide +kernel
theorem dX4_vowAt_9 : decode cX4_vowAt 9 = .ok (.invokevirtual 60, 3) := by decide +kernel
theorem dX4_vowAt_12 : decode cX4_vowAt 12 = .ok (.if_icmp .ge 7, 3) := by decide +kernel
theorem dX4_vowAt_15 : decode cX4_vowAt 15 = .ok (.iconst 1, 1) := by decide +kernel
theorem dX4_vowAt_16 : decode cX4_vowAt 16 = .ok (.goto 4, 3) := by decide +kernel
theorem dX4_vowAt_19 : decode cX4_vowAt 19 = .ok (.iconst 0, 1) := by decide +kernel
theorem dX4_vowAt_20 : decode cX4_vowAt 20 = .ok (.invokestatic 49, 3) := by decide +kernel
theorem dX4_vowAt_23 : decode cX4_vowAt 23 = .ok (.aload_n 0, 1) := by decide +kernel
theorem dX4_vowAt_24 : decode cX4_vowAt 24 = .ok (.getfield 16, 3) := by decide +kernel
theorem dX4_vowAt_27 : decode cX4_vowAt 27 = .ok (.iload_n 1, 1) := by decide +kernel
theorem dX4_vowAt_28 : decode cX4_vowAt 28 = .ok (.invokevirtual 253, 3) := by decide +kernel
theorem dX4_vowAt_31 : decode cX4_vowAt 31 = .ok (.checkcast 119, 3) := by decide +kernel
theorem dX4_vowAt_34 : decode cX4_vowAt 34 = .ok (.areturn, 1) := by decide +kernel
def tab_X4_vowAt : List (Nat × Sem) := [(0, op_il 1 1), (1, op_if (fun x => x < 0) 19 4), (4, op_il 1 5), (5, op_al 0 6), (6, op_gf 6 1 9), (9, op_callV 1 sp_Jx4a65c_size_8abf5 1 0 12), (12, op_cmp (fun x y => y ≤ x) 19 15), (15, op_ic 1 16), (16, op_go 20), (19, op_ic 0 20), (20, op_call sp_X4_checkIndex 1 1 23), (23, op_al 0 24), (24, op_gf 6 1 27), (27, op_il 1 28), (28, op_callV 1 sp_Jx4a65c_get_915e3 2 0 31), (31, op_cc 5 34), (34, op_aret)]
set_option maxRecDepth 20000 in
theorem tok_X4_vowAt : ∀ q ∈ tab_X4_vowAt, Snd RX4 cX4_vowAt 2 7 1 (some (.object "VowCourt$Vow")) q.1 q.2 := by
  unfold tab_X4_vowAt
  refine tcons (ok_iload_n dX4_vowAt_0 rfl rfl) ?_
  refine tcons (ok_if_lt dX4_vowAt_1 rfl rfl) ?_
  refine tcons (ok_iload_n dX4_vowAt_4 rfl rfl) ?_
  refine tcons (ok_aload_n dX4_vowAt_5 rfl rfl) ?_
  refine tcons (ok_getfield (C := RX4) (T := TX4) (n := 8) rfl in_X4 (by decide) w_99 dX4_vowAt_6 rfl) ?_
  refine tcons (ok_invokevirtual M_Jx4a65c_size_8abf5 (C := RJx4a65c) (T := TJx4a65c) (nf := 3) rfl w_142 w_143 w_144 w_23 w_145 ⟨rfl, by decide, by decide, by decide +kernel⟩ (by decide) (by decide) dX4_vowAt_9 rfl) ?_
  refine tcons (ok_icmp_ge dX4_vowAt_12 rfl rfl) ?_
  refine tcons (ok_iconst dX4_vowAt_15 rfl rfl) ?_
  refine tcons (ok_goto dX4_vowAt_16 rfl) ?_
  refine tcons (ok_iconst dX4_vowAt_19 rfl rfl) ?_
  refine tcons (ok_invokestatic M_X4_checkIndex w_146 w_147 w_20 w_148 ⟨by decide, by decide, by decide +kernel⟩ (by decide) (by decide) dX4_vowAt_20 rfl) ?_
  refine tcons (ok_aload_n dX4_vowAt_23 rfl rfl) ?_
  refine tcons (ok_getfield (C := RX4) (T := TX4) (n := 8) rfl in_X4 (by decide) w_99 dX4_vowAt_24 rfl) ?_
  refine tcons (ok_iload_n dX4_vowAt_27 rfl rfl) ?_
  refine tcons (ok_invokevirtual M_Jx4a65c_get_915e3 (C := RJx4a65c) (T := TJx4a65c) (nf := 3) rfl w_364 w_365 w_366 w_23 w_367 ⟨rfl, by decide, by decide, by decide +kernel⟩ (by decide) (by decide) dX4_vowAt_28 rfl) ?_
  refine tcons (ok_checkcast (C := RX3) (T := TX3) (n := 8) rfl w_401 dX4_vowAt_31 rfl) ?_
  refine tcons (ok_areturn rfl dX4_vowAt_34) ?_
  exact fun _ h => nomatch h
def sp_X4_vowAt : Spc := fun av s N X => match av with
  | [.inl (.inr (1, 0)), .inl (.inl p)] => CI s ∧ (¬ iC s 1 p → X 1 s) ∧ (iC s 1 p → N (some (aR 13 (cl p))) s)
  | _ => False
set_option maxRecDepth 20000 in
set_option maxHeartbeats 2000000 in
theorem M_X4_vowAt : AMet yX4_vowAt cX4_vowAt 2 (some (.object "VowCourt$Vow")) 7 1 sp_X4_vowAt := by
  refine AMet.mk (own := RX4) (by decide) rfl [0, 1] rfl tok_X4_vowAt 200 ?_
  intro av s0 N X h
  unfold sp_X4_vowAt at h
  split at h
  rotate_left
  · exact h.elim
  refine ⟨fun _ => none, ?_, fun pc P hP => nomatch hP⟩
  repeat' (first | apply And.intro | (intro q; exact absurd q (by decide)) | intro _)
  all_goals first | decide | (exact (rfl : (0 : Nat) = 0)) | (exact Nat.le_of_ble_eq_true rfl) | (exact CI_1 h.1) | (exact Int32.not_lt.mp (by assumption)) | (exact Int32.not_le.mp (by assumption)) | (exact iC_v h.1 (iC_mk (by assumption) (by assumption))) | (exact h.2.1 (iC_n0 (by assumption))) | (exact h.2.1 (iC_n1 (by assumption))) | (exact h.2.2 (iC_mk (by assumption) (by assumption)))
theorem dX4_causeAt_0 : decode cX4_causeAt 0 = .ok (.iload_n 1, 1) := by decide +kernel
theorem dX4_causeAt_1 : decode cX4_causeAt 1 = .ok (.ifCond .lt 18, 3) := by decide +kernel
theorem dX4_causeAt_4 : decode cX4_causeAt 4 = .ok (.iload_n 1, 1) := by decide +kernel
theorem dX4_causeAt_5 : decode cX4_causeAt 5 = .ok (.aload_n 0, 1) := by decide +kernel
theorem dX4_causeAt_6 : decode cX4_causeAt 6 = .ok (.getfield 19, 3) := by decide +kernel
theorem dX4_causeAt_9 : decode cX4_causeAt 9 = .ok (.invokevirtual 60, 3) := by decide +kernel
theorem dX4_causeAt_12 : decode cX4_causeAt 12 = .ok (.if_icmp .ge 7, 3) := by decide +kernel
theorem dX4_causeAt_15 : decode cX4_causeAt 15 = .ok (.iconst 1, 1) := by decide +kernel
theorem dX4_causeAt_16 : decode cX4_causeAt 16 = .ok (.goto 4, 3) := by decide +kernel
theorem dX4_causeAt_19 : decode cX4_causeAt 19 = .ok (.iconst 0, 1) := by decide +kernel
theorem dX4_causeAt_20 : decode cX4_causeAt 20 = .ok (.invokestatic 49, 3) := by decide +kernel
theorem dX4_causeAt_23 : decode cX4_causeAt 23 = .ok (.aload_n 0, 1) := by decide +kernel
theorem dX4_causeAt_24 : decode cX4_causeAt 24 = .ok (.getfield 19, 3) := by decide +kernel
theorem dX4_causeAt_27 : decode cX4_causeAt 27 = .ok (.iload_n 1, 1) := by decide +kernel
theorem dX4_causeAt_28 : decode cX4_causeAt 28 = .ok (.invokevirtual 253, 3) := by decide +kernel
theorem dX4_causeAt_31 : decode cX4_causeAt 31 = .ok (.checkcast 153, 3) := by decide +kernel
theorem dX4_causeAt_34 : decode cX4_causeAt 34 = .ok (.areturn, 1) := by decide +kernel
def tab_X4_causeAt : List (Nat × Sem) := [(0, op_il 1 1), (1, op_if (fun x => x < 0) 19 4), (4, op_il 1 5), (5, op_al 0 6), (6, op_gf 6 2 9), (9, op_callV 1 sp_Jx4a65c_size_8abf5 1 0 12), (12, op_cmp (fun x y => y ≤ x) 19 15), (15, op_ic 1 16), (16, op_go 20), (19, op_ic 0 20), (20, op_call sp_X4_checkIndex 1 1 23), (23, op_al 0 24), (24, op_gf 6 2 27), (27, op_il 1 28), (28, op_callV 1 sp_Jx4a65c_get_915e3 2 0 31), (31, op_cc 2 34), (34, op_aret)]
set_option maxRecDepth 20000 in
theorem tok_X4_causeAt : ∀ q ∈ tab_X4_causeAt, Snd RX4 cX4_causeAt 2 7 1 (some (.object "VowCourt$Cause")) q.1 q.2 := by
  unfold tab_X4_causeAt
  refine tcons (ok_iload_n dX4_causeAt_0 rfl rfl) ?_
  refine tcons (ok_if_lt dX4_causeAt_1 rfl rfl) ?_
  refine tcons (ok_iload_n dX4_causeAt_4 rfl rfl) ?_
  refine tcons (ok_aload_n dX4_causeAt_5 rfl rfl) ?_
  refine tcons (ok_getfield (C := RX4) (T := TX4) (n := 8) rfl in_X4 (by decide) w_100 dX4_causeAt_6 rfl) ?_
  refine tcons (ok_invokevirtual M_Jx4a65c_size_8abf5 (C := RJx4a65c) (T := TJx4a65c) (nf := 3) rfl w_142 w_143 w_144 w_23 w_145 ⟨rfl, by decide, by decide, by decide +kernel⟩ (by decide) (by decide) dX4_causeAt_9 rfl) ?_
  refine tcons (ok_icmp_ge dX4_causeAt_12 rfl rfl) ?_
  refine tcons (ok_iconst dX4_causeAt_15 rfl rfl) ?_
  refine tcons (ok_goto dX4_causeAt_16 rfl) ?_
  refine tcons (ok_iconst dX4_causeAt_19 rfl rfl) ?_
  refine tcons (ok_invokestatic M_X4_checkIndex w_146 w_147 w_20 w_148 ⟨by decide, by decide, by decide +kernel⟩ (by decide) (by decide) dX4_causeAt_20 rfl) ?_
  refine tcons (ok_aload_n dX4_causeAt_23 rfl rfl) ?_
  refine tcons (ok_getfield (C := RX4) (T := TX4) (n := 8) rfl in_X4 (by decide) w_100 dX4_causeAt_24 rfl) ?_
  refine tcons (ok_iload_n dX4_causeAt_27 rfl rfl) ?_
  refine tcons (ok_invokevirtual M_Jx4a65c_get_915e3 (C := RJx4a65c) (T := TJx4a65c) (nf := 3) rfl w_364 w_365 w_366 w_23 w_367 ⟨rfl, by decide, by decide, by decide +kernel⟩ (by decide) (by decide) dX4_causeAt_28 rfl) ?_
  refine tcons (ok_checkcast (C := RX0) (T := TX0) (n := 7) rfl w_533 dX4_causeAt_31 rfl) ?_
  refine tcons (ok_areturn rfl dX4_causeAt_34) ?_
  exact fun _ h => nomatch h
def sp_X4_causeAt : Spc := fun av s N X => match av with
  | [.inl (.inr (1, 0)), .inl (.inl p)] => CI s ∧ (¬ iC s 2 p → X 1 s) ∧ (iC s 2 p → N (some (aR 14 (cl p))) s)
  | _ => False
set_option maxRecDepth 20000 in
set_option maxHeartbeats 2000000 in
theorem M_X4_causeAt : AMet yX4_causeAt cX4_causeAt 2 (some (.object "VowCourt$Cause")) 7 1 sp_X4_causeAt := by
  refine AMet.mk (own := RX4) (by decide) rfl [0, 1] rfl tok_X4_causeAt 200 ?_
  intro av s0 N X h
  unfold sp_X4_causeAt at h
  split at h
  rotate_left
  · exact h.elim
  refine ⟨fun _ => none, ?_, fun pc P hP => nomatch hP⟩
  repeat' (first | apply And.intro | (intro q; exact absurd q (by decide)) | intro _)
  all_goals first | decide | (exact (rfl : (0 : Nat) = 0)) | (exact Nat.le_of_ble_eq_true rfl) | (exact CI_2 h.1) | (exact Int32.not_lt.mp (by assumption)) | (exact Int32.not_le.mp (by assumption)) | (exact iC_c h.1 (iC_mk (by assumption) (by assumption))) | (exact h.2.1 (iC_n0 (by assumption))) | (exact h.2.1 (iC_n1 (by assumption))) | (exact h.2.2 (iC_mk (by assumption) (by assumption)))
def mx (x y : Int32) : Int32 := if x < y then y else x
def aoy (s : Sg) (p q : Int32) : Int32 := s.2.1 1 0 7 - mx (s.2.1 12 (cl p) 0) (s.2.1 12 (cl q) 0)
theorem dX4_ageOfYounger_0 : decode cX4_ageOfYounger 0 = .ok (.aload_n 0, 1) := by decide +kernel
theorem dX4_ageOfYounger_1 : decode cX4_ageOfYounger 1 = .ok (.getfield 41, 3) := by decide +kernel
theorem dX4_ageOfYounger_4 : decode cX4_ageOfYounger 4 = .ok (.aload_n 0, 1) := by decide +kernel
theorem dX4_ageOfYounger_5 : decode cX4_ageOfYounger 5 = .ok (.iload_n 1, 1) := by decide +kernel
theorem dX4_ageOfYounger_6 : decode cX4_ageOfYounger 6 = .ok (.invokevirtual 80, 3) := by decide +kernel
theorem dX4_ageOfYounger_9 : decode cX4_ageOfYounger 9 = .ok (.getfield 260, 3) := by decide +kernel
theorem dX4_ageOfYounger_12 : decode cX4_ageOfYounger 12 = .ok (.aload_n 0, 1) := by decide +kernel
theorem dX4_ageOfYounger_13 : decode cX4_ageOfYounger 13 = .ok (.iload_n 2, 1) := by decide +kernel
theorem dX4_ageOfYounger_14 : decode cX4_ageOfYounger 14 = .ok (.invokevirtual 80, 3) := by decide +kernel
theorem dX4_ageOfYounger_17 : decode cX4_ageOfYounger 17 = .ok (.getfield 260, 3) := by decide +kernel
theorem dX4_ageOfYounger_20 : decode cX4_ageOfYounger 20 = .ok (.invokestatic 263, 3) := by decide +kernel
theorem dX4_ageOfYounger_23 : decode cX4_ageOfYounger 23 = .ok (.isub, 1) := by decide +kernel
theorem dX4_ageOfYounger_24 : decode cX4_ageOfYounger 24 = .ok (.ireturn, 1) := by decide +kernel
def tab_X4_ageOfYounger : List (Nat × Sem) := [(0, op_al 0 1), (1, op_gf 6 7 4), (4, op_al 0 5), (5, op_il 1 6), (6, op_callV 6 sp_X4_personAt 2 1 9), (9, op_gf 4 0 12), (12, op_al 0 13), (13, op_il 2 14), (14, op_callV 6 sp_X4_personAt 2 1 17), (17, op_gf 4 0 20), (20, op_mm (fun x y => if x < y then y else x) 23), (23, op_bin (fun x y => x - y) 24), (24, op_iret)]
set_option maxRecDepth 20000 in
theorem tok_X4_ageOfYounger : ∀ q ∈ tab_X4_ageOfYounger, Snd RX4 cX4_ageOfYounger 3 8 2 (some .int) q.1 q.2 := by
  unfold tab_X4_ageOfYounger
  refine tcons (ok_aload_n dX4_ageOfYounger_0 rfl rfl) ?_
  refine tcons (ok_getfield (C := RX4) (T := TX4) (n := 8) rfl in_X4 (by decide) w_105 dX4_ageOfYounger_1 rfl) ?_
  refine tcons (ok_aload_n dX4_ageOfYounger_4 rfl rfl) ?_
  refine tcons (ok_iload_n dX4_ageOfYounger_5 rfl rfl) ?_
  refine tcons (ok_invokevirtual M_X4_personAt (C := RX4) (T := TX4) (nf := 8) rfl w_360 w_362 w_5 w_20 w_363 ⟨rfl, by decide, by decide, by decide +kernel⟩ (by decide) (by decide) dX4_ageOfYounger_6 rfl) ?_
  refine tcons (ok_getfield (C := RX2) (T := TX2) (n := 6) rfl in_X2 (by decide) w_277 dX4_ageOfYounger_9 rfl) ?_
  refine tcons (ok_aload_n dX4_ageOfYounger_12 rfl rfl) ?_
  refine tcons (ok_iload_n dX4_ageOfYounger_13 rfl rfl) ?_
  refine tcons (ok_invokevirtual M_X4_personAt (C := RX4) (T := TX4) (nf := 8) rfl w_360 w_362 w_5 w_20 w_363 ⟨rfl, by decide, by decide, by decide +kernel⟩ (by decide) (by decide) dX4_ageOfYounger_14 rfl) ?_
  refine tcons (ok_getfield (C := RX2) (T := TX2) (n := 6) rfl in_X2 (by decide) w_277 dX4_ageOfYounger_17 rfl) ?_
  refine tcons (ok_mmax w_425 w_321 w_32 w_322 (by decide) dX4_ageOfYounger_20 rfl) ?_
  refine tcons (ok_isub dX4_ageOfYounger_23 rfl) ?_
  refine tcons (ok_ireturn rfl dX4_ageOfYounger_24) ?_
  exact fun _ h => nomatch h
def sp_X4_ageOfYounger : Spc := fun av s N X => match av with
  | [.inl (.inr (1, 0)), .inl (.inl p), .inl (.inl q)] => CI s ∧ iC s 0 p ∧ iC s 0 q ∧ N (some (aI (aoy s p q))) s
  | _ => False
set_option maxRecDepth 20000 in
set_option maxHeartbeats 2000000 in
theorem M_X4_ageOfYounger : AMet yX4_ageOfYounger cX4_ageOfYounger 3 (some .int) 8 2 sp_X4_ageOfYounger := by
  refine AMet.mk (own := RX4) (by decide) rfl [0, 1, 2] rfl tok_X4_ageOfYounger 200 ?_
  intro av s0 N X h
  unfold sp_X4_ageOfYounger at h
  split at h
  rotate_left
  · exact h.elim
  refine ⟨fun _ => none, ?_, fun pc P hP => nomatch hP⟩
  repeat' (first | apply And.intro | (intro q; exact absurd q (by decide)) | intro _)
  all_goals first | decide | (exact (rfl : (0 : Nat) = 0)) | (exact Nat.le_of_ble_eq_true rfl) | (exact h.1) | (exact iC_p h.1 h.2.1) | (exact iC_p h.1 h.2.2.1) | (exact absurd h.2.1 (by assumption)) | (exact absurd h.2.2.1 (by assumption)) | exact h.2.2.2
def laC (s : Sg) (p a : Int32) : Prop := ¬ s.2.1 12 (cl p) 5 = 0 ∧ s.2.1 12 (cl p) 1 = a
theorem dX4_livesAt_0 : decode cX4_livesAt 0 = .ok (.aload_n 0, 1) := by decide +kernel
theorem dX4_livesAt_1 : decode cX4_livesAt 1 = .ok (.iload_n 1, 1) := by decide +kernel
theorem dX4_livesAt_2 : decode cX4_livesAt 2 = .ok (.invokevirtual 80, 3) := by decide +kernel
theorem dX4_livesAt_5 : decode cX4_livesAt 5 = .ok (.astore_n 3, 1) := by decide +kernel
theorem dX4_livesAt_6 : decode cX4_livesAt 6 = .ok (.aload_n 3, 1) := by decide +kernel
theorem dX4_livesAt_7 : decode cX4_livesAt 7 = .ok (.getfield 90, 3) := by decide +kernel
theorem dX4_livesAt_10 : decode cX4_livesAt 10 = .ok (.ifCond .eq 15, 3) := by decide +kernel
theorem dX4_livesAt_13 : decode cX4_livesAt 13 = .ok (.aload_n 3, 1) := by decide +kernel
theorem dX4_livesAt_14 : decode cX4_livesAt 14 = .ok (.getfield 87, 3) := by decide +kernel
theorem dX4_livesAt_17 : decode cX4_livesAt 17 = .ok (.iload_n 2, 1) := by decide +kernel
theorem dX4_livesAt_18 : decode cX4_livesAt 18 = .ok (.if_icmp .ne 7, 3) := by decide +kernel
theorem dX4_livesAt_21 : decode cX4_livesAt 21 = .ok (.iconst 1, 1) := by decide +kernel
theorem dX4_livesAt_22 : decode cX4_livesAt 22 = .ok (.goto 4, 3) := by decide +kernel
theorem dX4_livesAt_25 : decode cX4_livesAt 25 = .ok (.iconst 0, 1) := by decide +kernel
theorem dX4_livesAt_26 : decode cX4_livesAt 26 = .ok (.ireturn, 1) := by decide +kernel
def tab_X4_livesAt : List (Nat × Sem) := [(0, op_al 0 1), (1, op_il 1 2), (2, op_callV 6 sp_X4_personAt 2 1 5), (5, op_as 3 6), (6, op_al 3 7), (7, op_gf 4 5 10), (10, op_if (fun x => x = 0) 25 13), (13, op_al 3 14), (14, op_gf 4 1 17), (17, op_il 2 18), (18, op_cmp (fun x y => ¬ x = y) 25 21), (21, op_ic 1 22), (22, op_go 26), (25, op_ic 0 26), (26, op_zret)]
set_option maxRecDepth 20000 in
theorem tok_X4_livesAt : ∀ q ∈ tab_X4_livesAt, Snd RX4 cX4_livesAt 4 8 1 (some .boolean) q.1 q.2 := by
  unfold tab_X4_livesAt
  refine tcons (ok_aload_n dX4_livesAt_0 rfl rfl) ?_
  refine tcons (ok_iload_n dX4_livesAt_1 rfl rfl) ?_
  refine tcons (ok_invokevirtual M_X4_personAt (C := RX4) (T := TX4) (nf := 8) rfl w_360 w_362 w_5 w_20 w_363 ⟨rfl, by decide, by decide, by decide +kernel⟩ (by decide) (by decide) dX4_livesAt_2 rfl) ?_
  refine tcons (ok_astore_n dX4_livesAt_5 rfl (by decide) rfl) ?_
  refine tcons (ok_aload_n dX4_livesAt_6 rfl rfl) ?_
  refine tcons (ok_getfield (C := RX2) (T := TX2) (n := 6) rfl in_X2 (by decide) w_287 dX4_livesAt_7 rfl) ?_
  refine tcons (ok_if_eq dX4_livesAt_10 rfl rfl) ?_
  refine tcons (ok_aload_n dX4_livesAt_13 rfl rfl) ?_
  refine tcons (ok_getfield (C := RX2) (T := TX2) (n := 6) rfl in_X2 (by decide) w_279 dX4_livesAt_14 rfl) ?_
  refine tcons (ok_iload_n dX4_livesAt_17 rfl rfl) ?_
  refine tcons (ok_icmp_ne dX4_livesAt_18 rfl rfl) ?_
  refine tcons (ok_iconst dX4_livesAt_21 rfl rfl) ?_
  refine tcons (ok_goto dX4_livesAt_22 rfl) ?_
  refine tcons (ok_iconst dX4_livesAt_25 rfl rfl) ?_
  refine tcons (ok_zreturn rfl (Or.inl rfl) dX4_livesAt_26) ?_
  exact fun _ h => nomatch h
def sp_X4_livesAt : Spc := fun av s N X => match av with
  | [.inl (.inr (1, 0)), .inl (.inl p), .inl (.inl a)] => CI s ∧ iC s 0 p ∧ br (laC s p a) N s
  | _ => False
set_option maxRecDepth 20000 in
set_option maxHeartbeats 2000000 in
theorem M_X4_livesAt : AMet yX4_livesAt cX4_livesAt 4 (some .boolean) 8 1 sp_X4_livesAt := by
  refine AMet.mk (own := RX4) (by decide) rfl [0, 1, 2, 3] rfl tok_X4_livesAt 200 ?_
  intro av s0 N X h
  unfold sp_X4_livesAt at h
  split at h
  rotate_left
  · exact h.elim
  refine ⟨fun _ => none, ?_, fun pc P hP => nomatch hP⟩
  repeat' (first | apply And.intro | (intro q; exact absurd q (by decide)) | intro _)
  all_goals first | decide | (exact (rfl : (0 : Nat) = 0)) | (exact Nat.le_of_ble_eq_true rfl) | (exact h.1) | (exact iC_p h.1 h.2.1) | (exact absurd h.2.1 (by assumption)) | (simp_all [-Int32.not_lt, -Int32.not_le, br, laC]; done) | (simp_all [-Int32.not_lt, -Int32.not_le, ← Int32.not_le, br, laC]; done) | (simp_all [br, laC]; done)
def icourt (s : Sg) (i : Nat) (a : Int32) : Prop := a = s.2.1 13 i 2 ∨ laC s (s.2.1 13 i 0) a ∨ laC s (s.2.1 13 i 1) a
theorem dX4_isCourtOf_0 : decode cX4_isCourtOf 0 = .ok (.iload_n 2, 1) := by decide +kernel
theorem dX4_isCourtOf_1 : decode cX4_isCourtOf 1 = .ok (.aload_n 1, 1) := by decide +kernel
theorem dX4_isCourtOf_2 : decode cX4_isCourtOf 2 = .ok (.getfield 209, 3) := by decide +kernel
theorem dX4_isCourtOf_5 : decode cX4_isCourtOf 5 = .ok (.if_icmp .eq 27, 3) := by decide +kernel
theorem dX4_isCourtOf_8 : decode cX4_isCourtOf 8 = .ok (.aload_n 0, 1) := by decide +kernel
theorem dX4_isCourtOf_9 : decode cX4_isCourtOf 9 = .ok (.aload_n 1, 1) := by decide +kernel
theorem dX4_isCourtOf_10 : decode cX4_isCourtOf 10 = .ok (.getfield 268, 3) := by decide +kernel
theorem dX4_isCourtOf_13 : decode cX4_isCourtOf 13 = .ok (.iload_n 2, 1) := by decide +kernel
theorem dX4_isCourtOf_14 : decode cX4_isCourtOf 14 = .ok (.invokevirtual 286, 3) := by decide +kernel
theorem dX4_isCourtOf_17 : decode cX4_isCourtOf 17 = .ok (.ifCond .ne 15, 3) := by decide +kernel
theorem dX4_isCourtOf_20 : decode cX4_isCourtOf 20 = .ok (.aload_n 0, 1) := by decide +kernel
theorem dX4_isCourtOf_21 : decode cX4_isCourtOf 21 = .ok (.aload_n 1, 1) := by decide +kernel
theorem dX4_isCourtOf_22 : decode cX4_isCourtOf 22 = .ok (.getfield 271, 3) := by decide +kernel
theorem dX4_isCourtOf_25 : decode cX4_isCourtOf 25 = .ok (.iload_n 2, 1) := by decide +kernel
theorem dX4_isCourtOf_26 : decode cX4_isCourtOf 26 = .ok (.invokevirtual 286, 3) := by decide +kernel
theorem dX4_isCourtOf_29 : decode cX4_isCourtOf 29 = .ok (.ifCond .eq 7, 3) := by decide +kernel
theorem dX4_isCourtOf_32 : decode cX4_isCourtOf 32 = .ok (.iconst 1, 1) := by decide +kernel
theorem dX4_isCourtOf_33 : decode cX4_isCourtOf 33 = .ok (.goto 4, 3) := by decide +kernel
theorem dX4_isCourtOf_36 : decode cX4_isCourtOf 36 = .ok (.iconst 0, 1) := by decide +kernel
theorem dX4_isCourtOf_37 : decode cX4_isCourtOf 37 = .ok (.ireturn, 1) := by decide +kernel
def tab_X4_isCourtOf : List (Nat × Sem) := [(0, op_il 2 1), (1, op_al 1 2), (2, op_gf 5 2 5), (5, op_cmp (fun x y => x = y) 32 8), (8, op_al 0 9), (9, op_al 1 10), (10, op_gf 5 0 13), (13, op_il 2 14), (14, op_callV 6 sp_X4_livesAt 3 1 17), (17, op_if (fun x => ¬ x = 0) 32 20), (20, op_al 0 21), (21, op_al 1 22), (22, op_gf 5 1 25), (25, op_il 2 26), (26, op_callV 6 sp_X4_livesAt 3 1 29), (29, op_if (fun x => x = 0) 36 32), (32, op_ic 1 33), (33, op_go 37), (36, op_ic 0 37), (37, op_zret)]
set_option maxRecDepth 20000 in
theorem tok_X4_isCourtOf : ∀ q ∈ tab_X4_isCourtOf, Snd RX4 cX4_isCourtOf 3 9 2 (some .boolean) q.1 q.2 := by
  unfold tab_X4_isCourtOf
  refine tcons (ok_iload_n dX4_isCourtOf_0 rfl rfl) ?_
  refine tcons (ok_aload_n dX4_isCourtOf_1 rfl rfl) ?_
  refine tcons (ok_getfield (C := RX3) (T := TX3) (n := 8) rfl in_X3 (by decide) w_471 dX4_isCourtOf_2 rfl) ?_
  refine tcons (ok_icmp_eq dX4_isCourtOf_5 rfl rfl) ?_
  refine tcons (ok_aload_n dX4_isCourtOf_8 rfl rfl) ?_
  refine tcons (ok_aload_n dX4_isCourtOf_9 rfl rfl) ?_
  refine tcons (ok_getfield (C := RX3) (T := TX3) (n := 8) rfl in_X3 (by decide) w_467 dX4_isCourtOf_10 rfl) ?_
  refine tcons (ok_iload_n dX4_isCourtOf_13 rfl rfl) ?_
  refine tcons (ok_invokevirtual M_X4_livesAt (C := RX4) (T := TX4) (nf := 8) rfl w_557 w_559 w_16 w_20 w_560 ⟨rfl, by decide, by decide, by decide +kernel⟩ (by decide) (by decide) dX4_isCourtOf_14 rfl) ?_
  refine tcons (ok_if_ne dX4_isCourtOf_17 rfl rfl) ?_
  refine tcons (ok_aload_n dX4_isCourtOf_20 rfl rfl) ?_
  refine tcons (ok_aload_n dX4_isCourtOf_21 rfl rfl) ?_
  refine tcons (ok_getfield (C := RX3) (T := TX3) (n := 8) rfl in_X3 (by decide) w_469 dX4_isCourtOf_22 rfl) ?_
  refine tcons (ok_iload_n dX4_isCourtOf_25 rfl rfl) ?_
  refine tcons (ok_invokevirtual M_X4_livesAt (C := RX4) (T := TX4) (nf := 8) rfl w_557 w_559 w_16 w_20 w_560 ⟨rfl, by decide, by decide, by decide +kernel⟩ (by decide) (by decide) dX4_isCourtOf_26 rfl) ?_
  refine tcons (ok_if_eq dX4_isCourtOf_29 rfl rfl) ?_
  refine tcons (ok_iconst dX4_isCourtOf_32 rfl rfl) ?_
  refine tcons (ok_goto dX4_isCourtOf_33 rfl) ?_
  refine tcons (ok_iconst dX4_isCourtOf_36 rfl rfl) ?_
  refine tcons (ok_zreturn rfl (Or.inl rfl) dX4_isCourtOf_37) ?_
  exact fun _ h => nomatch h
def sp_X4_isCourtOf : Spc := fun av s N X => match av with
  | [.inl (.inr (1, 0)), .inl (.inr (13, i)), .inl (.inl a)] => CI s ∧ Lv s 13 i ∧ br (icourt s i a) N s
  | _ => False
set_option maxRecDepth 20000 in
set_option maxHeartbeats 2000000 in
theorem M_X4_isCourtOf : AMet yX4_isCourtOf cX4_isCourtOf 3 (some .boolean) 9 2 sp_X4_isCourtOf := by
  refine AMet.mk (own := RX4) (by decide) rfl [0, 1, 2] rfl tok_X4_isCourtOf 200 ?_
  intro av s0 N X h
  unfold sp_X4_isCourtOf at h
  split at h
  rotate_left
  · exact h.elim
  refine ⟨fun _ => none, ?_, fun pc P hP => nomatch hP⟩
  repeat' (first | apply And.intro | (intro q; exact absurd q (by decide)) | intro _)
  all_goals first | decide | (exact (rfl : (0 : Nat) = 0)) | (exact Nat.le_of_ble_eq_true rfl) | (exact h.1) | (exact h.2.1) | (exact CI_one h.1 h.2.1) | (exact CI_other h.1 h.2.1) | (simp_all [-Int32.not_lt, -Int32.not_le, br, icourt]; done) | (simp_all [-Int32.not_lt, -Int32.not_le, ← Int32.not_le, br, icourt]; done) | (simp_all [br, icourt]; done)

