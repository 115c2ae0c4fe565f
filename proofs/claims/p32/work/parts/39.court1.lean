/-! VowCourt's own: tests and checks -/
theorem w_29 : (.initialized "java/lang/IndexOutOfBoundsException" : Cond) ∈ TB := TB_mem (List.mem_of_getElem? (i := 29) (by decide +kernel)) rfl
theorem w_30 : (.initialized "java/lang/IllegalArgumentException" : Cond) ∈ TB := TB_mem (List.mem_of_getElem? (i := 30) (by decide +kernel)) rfl
theorem w_31 : (.initialized "java/lang/IllegalStateException" : Cond) ∈ TB := TB_mem (List.mem_of_getElem? (i := 31) (by decide +kernel)) rfl
theorem w_98 : (.fieldLink "VowCourt" 12 "VowCourt" "persons" "Ljava/util/ArrayList;" : Cond) ∈ TB := TB_mem (List.mem_of_getElem? (i := 98) (by decide +kernel)) rfl
theorem w_142 : (.methodLink "VowCourt" 60 ⟨"java/util/ArrayList", "size", "()I"⟩ : Cond) ∈ TB := TB_mem (List.mem_of_getElem? (i := 142) (by decide +kernel)) rfl
theorem w_143 : (.instanceMethod ⟨"java/util/ArrayList", "size", "()I"⟩ : Cond) ∈ TB := TB_mem (List.mem_of_getElem? (i := 143) (by decide +kernel)) rfl
theorem w_144 : (.selects "java/util/ArrayList" ⟨"java/util/ArrayList", "size", "()I"⟩ ⟨"java/util/ArrayList", "size", "()I"⟩ : Cond) ∈ TB := TB_mem (List.mem_of_getElem? (i := 144) (by decide +kernel)) rfl
theorem w_145 : (.code yJx4a65c_size_8abf5 cJx4a65c_size_8abf5 1 (some .int) : Cond) ∈ TB := TB_mem (List.mem_of_getElem? (i := 145) (by decide +kernel)) rfl
theorem w_149 : (.classLink "VowCourt" 235 "java/lang/IndexOutOfBoundsException" : Cond) ∈ TB := TB_mem (List.mem_of_getElem? (i := 149) (by decide +kernel)) rfl
theorem w_220 : (.classLink "VowCourt" 242 "java/lang/IllegalArgumentException" : Cond) ∈ TB := TB_mem (List.mem_of_getElem? (i := 220) (by decide +kernel)) rfl
theorem w_243 : (.classLink "VowCourt" 247 "java/lang/IllegalStateException" : Cond) ∈ TB := TB_mem (List.mem_of_getElem? (i := 243) (by decide +kernel)) rfl
theorem w_682 : (.constant "VowCourt" 252 (1000000) : Cond) ∈ TB := TB_mem (List.mem_of_getElem? (i := 682) (by decide +kernel)) rfl
def iC (s : Sg) (k : Nat) (j : Int32) : Prop := (0 ≤ j ∧ j < nI (s.1 k)) = True
theorem iC0 {s : Sg} {k : Nat} {j : Int32} (h : iC s k j) : 0 ≤ j := (of_eq_true h).1
theorem iC1 {s : Sg} {k : Nat} {j : Int32} (h : iC s k j) : j < nI (s.1 k) := (of_eq_true h).2
theorem dX4_isPerson_0 : decode cX4_isPerson 0 = .ok (.iload_n 1, 1) := by decide +kernel
theorem dX4_isPerson_1 : decode cX4_isPerson 1 = .ok (.ifCond .lt 18, 3) := by decide +kernel
theorem dX4_isPerson_4 : decode cX4_isPerson 4 = .ok (.iload_n 1, 1) := by decide +kernel
theorem dX4_isPerson_5 : decode cX4_isPerson 5 = .ok (.aload_n 0, 1) := by decide +kernel
theorem dX4_isPerson_6 : decode cX4_isPerson 6 = .ok (.getfield 12, 3) := by decide +kernel
theorem dX4_isPerson_9 : decode cX4_isPerson 9 = .ok (.invokevirtual 60, 3) := by decide +kernel
theorem dX4_isPerson_12 : decode cX4_isPerson 12 = .ok (.if_icmp .ge 7, 3) := by decide +kernel
theorem dX4_isPerson_15 : decode cX4_isPerson 15 = .ok (.iconst 1, 1) := by decide +kernel
theorem dX4_isPerson_16 : decode cX4_isPerson 16 = .ok (.goto 4, 3) := by decide +kernel
theorem dX4_isPerson_19 : decode cX4_isPerson 19 = .ok (.iconst 0, 1) := by decide +kernel
theorem dX4_isPerson_20 : decode cX4_isPerson 20 = .ok (.ireturn, 1) := by decide +kernel
def tab_X4_isPerson : List (Nat × Sem) := [(0, op_il 1 1), (1, op_if (fun x => x < 0) 19 4), (4, op_il 1 5), (5, op_al 0 6), (6, op_gf 6 0 9), (9, op_callV 1 sp_Jx4a65c_size_8abf5 1 0 12), (12, op_cmp (fun x y => y ≤ x) 19 15), (15, op_ic 1 16), (16, op_go 20), (19, op_ic 0 20), (20, op_zret)]
set_option maxRecDepth 20000 in
theorem tok_X4_isPerson : ∀ q ∈ tab_X4_isPerson, Snd RX4 cX4_isPerson 2 1 0 (some .boolean) q.1 q.2 := by
  unfold tab_X4_isPerson
  refine tcons (ok_iload_n dX4_isPerson_0 rfl rfl) ?_
  refine tcons (ok_if_lt dX4_isPerson_1 rfl rfl) ?_
  refine tcons (ok_iload_n dX4_isPerson_4 rfl rfl) ?_
  refine tcons (ok_aload_n dX4_isPerson_5 rfl rfl) ?_
  refine tcons (ok_getfield (C := RX4) (T := TX4) (n := 8) rfl in_X4 (by decide) w_98 dX4_isPerson_6 rfl) ?_
  refine tcons (ok_invokevirtual M_Jx4a65c_size_8abf5 (C := RJx4a65c) (T := TJx4a65c) (nf := 3) rfl w_142 w_143 w_144 w_23 w_145 ⟨rfl, by decide, by decide, by decide +kernel⟩ (by decide) (by decide) dX4_isPerson_9 rfl) ?_
  refine tcons (ok_icmp_ge dX4_isPerson_12 rfl rfl) ?_
  refine tcons (ok_iconst dX4_isPerson_15 rfl rfl) ?_
  refine tcons (ok_goto dX4_isPerson_16 rfl) ?_
  refine tcons (ok_iconst dX4_isPerson_19 rfl rfl) ?_
  refine tcons (ok_zreturn rfl (Or.inl rfl) dX4_isPerson_20) ?_
  exact fun _ h => nomatch h
def sp_X4_isPerson : Spc := fun av s N _ => match av with
  | [.inl (.inr (1, 0)), .inl (.inl p)] => br (iC s 0 p) N s
  | _ => False
set_option maxRecDepth 20000 in
set_option maxHeartbeats 2000000 in
theorem M_X4_isPerson : AMet yX4_isPerson cX4_isPerson 2 (some .boolean) 1 0 sp_X4_isPerson := by
  refine AMet.mk (own := RX4) (by decide) rfl [0, 1] rfl tok_X4_isPerson 200 ?_
  intro av s0 N X h
  unfold sp_X4_isPerson at h
  split at h
  rotate_left
  · exact h.elim
  refine ⟨fun _ => none, ?_, fun pc P hP => nomatch hP⟩
  repeat' (first | apply And.intro | (intro q; exact absurd q (by decide)) | intro _)
  all_goals first | decide | (exact (rfl : (0 : Nat) = 0)) | (exact Nat.le_of_ble_eq_true rfl) | (simp_all [-Int32.not_lt, -Int32.not_le, br, iC]; done) | (simp_all [-Int32.not_lt, -Int32.not_le, ← Int32.not_le, br, iC]; done) | (simp_all [br, iC]; done)
theorem dX4_isPlace_0 : decode cX4_isPlace 0 = .ok (.iload_n 0, 1) := by decide +kernel
theorem dX4_isPlace_1 : decode cX4_isPlace 1 = .ok (.ifCond .lt 13, 3) := by decide +kernel
theorem dX4_isPlace_4 : decode cX4_isPlace 4 = .ok (.iload_n 0, 1) := by decide +kernel
theorem dX4_isPlace_5 : decode cX4_isPlace 5 = .ok (.bipush 8, 2) := by decide +kernel
theorem dX4_isPlace_7 : decode cX4_isPlace 7 = .ok (.if_icmp .ge 7, 3) := by decide +kernel
theorem dX4_isPlace_10 : decode cX4_isPlace 10 = .ok (.iconst 1, 1) := by decide +kernel
theorem dX4_isPlace_11 : decode cX4_isPlace 11 = .ok (.goto 4, 3) := by decide +kernel
theorem dX4_isPlace_14 : decode cX4_isPlace 14 = .ok (.iconst 0, 1) := by decide +kernel
theorem dX4_isPlace_15 : decode cX4_isPlace 15 = .ok (.ireturn, 1) := by decide +kernel
def tab_X4_isPlace : List (Nat × Sem) := [(0, op_il 0 1), (1, op_if (fun x => x < 0) 14 4), (4, op_il 0 5), (5, op_ic 8 7), (7, op_cmp (fun x y => y ≤ x) 14 10), (10, op_ic 1 11), (11, op_go 15), (14, op_ic 0 15), (15, op_zret)]
set_option maxRecDepth 20000 in
theorem tok_X4_isPlace : ∀ q ∈ tab_X4_isPlace, Snd RX4 cX4_isPlace 1 0 0 (some .boolean) q.1 q.2 := by
  unfold tab_X4_isPlace
  refine tcons (ok_iload_n dX4_isPlace_0 rfl rfl) ?_
  refine tcons (ok_if_lt dX4_isPlace_1 rfl rfl) ?_
  refine tcons (ok_iload_n dX4_isPlace_4 rfl rfl) ?_
  refine tcons (ok_bipush dX4_isPlace_5 rfl rfl) ?_
  refine tcons (ok_icmp_ge dX4_isPlace_7 rfl rfl) ?_
  refine tcons (ok_iconst dX4_isPlace_10 rfl rfl) ?_
  refine tcons (ok_goto dX4_isPlace_11 rfl) ?_
  refine tcons (ok_iconst dX4_isPlace_14 rfl rfl) ?_
  refine tcons (ok_zreturn rfl (Or.inl rfl) dX4_isPlace_15) ?_
  exact fun _ h => nomatch h
def sp_X4_isPlace : Spc := fun av s N _ => match av with
  | [.inl (.inl p)] => br (0 ≤ p ∧ p < 8) N s
  | _ => False
set_option maxRecDepth 20000 in
set_option maxHeartbeats 2000000 in
theorem M_X4_isPlace : AMet yX4_isPlace cX4_isPlace 1 (some .boolean) 0 0 sp_X4_isPlace := by
  refine AMet.mk (own := RX4) (by decide) rfl [0] rfl tok_X4_isPlace 200 ?_
  intro av s0 N X h
  unfold sp_X4_isPlace at h
  split at h
  rotate_left
  · exact h.elim
  refine ⟨fun _ => none, ?_, fun pc P hP => nomatch hP⟩
  repeat' (first | apply And.intro | (intro q; exact absurd q (by decide)) | intro _)
  all_goals first | decide | (exact (rfl : (0 : Nat) = 0)) | (exact Nat.le_of_ble_eq_true rfl) | (simp_all [-Int32.not_lt, -Int32.not_le, br]; done) | (simp_all [-Int32.not_lt, -Int32.not_le, ← Int32.not_le, br]; done) | (simp_all [br]; done)
theorem dX4_isWitness_0 : decode cX4_isWitness 0 = .ok (.iload_n 0, 1) := by decide +kernel
theorem dX4_isWitness_1 : decode cX4_isWitness 1 = .ok (.ifCond .lt 13, 3) := by decide +kernel
theorem dX4_isWitness_4 : decode cX4_isWitness 4 = .ok (.iload_n 0, 1) := by decide +kernel
theorem dX4_isWitness_5 : decode cX4_isWitness 5 = .ok (.bipush 6, 2) := by decide +kernel
theorem dX4_isWitness_7 : decode cX4_isWitness 7 = .ok (.if_icmp .ge 7, 3) := by decide +kernel
theorem dX4_isWitness_10 : decode cX4_isWitness 10 = .ok (.iconst 1, 1) := by decide +kernel
theorem dX4_isWitness_11 : decode cX4_isWitness 11 = .ok (.goto 4, 3) := by decide +kernel
theorem dX4_isWitness_14 : decode cX4_isWitness 14 = .ok (.iconst 0, 1) := by decide +kernel
theorem dX4_isWitness_15 : decode cX4_isWitness 15 = .ok (.ireturn, 1) := by decide +kernel
def tab_X4_isWitness : List (Nat × Sem) := [(0, op_il 0 1), (1, op_if (fun x => x < 0) 14 4), (4, op_il 0 5), (5, op_ic 6 7), (7, op_cmp (fun x y => y ≤ x) 14 10), (10, op_ic 1 11), (11, op_go 15), (14, op_ic 0 15), (15, op_zret)]
set_option maxRecDepth 20000 in
theorem tok_X4_isWitness : ∀ q ∈ tab_X4_isWitness, Snd RX4 cX4_isWitness 1 0 0 (some .boolean) q.1 q.2 := by
  unfold tab_X4_isWitness
  refine tcons (ok_iload_n dX4_isWitness_0 rfl rfl) ?_
  refine tcons (ok_if_lt dX4_isWitness_1 rfl rfl) ?_
  refine tcons (ok_iload_n dX4_isWitness_4 rfl rfl) ?_
  refine tcons (ok_bipush dX4_isWitness_5 rfl rfl) ?_
  refine tcons (ok_icmp_ge dX4_isWitness_7 rfl rfl) ?_
  refine tcons (ok_iconst dX4_isWitness_10 rfl rfl) ?_
  refine tcons (ok_goto dX4_isWitness_11 rfl) ?_
  refine tcons (ok_iconst dX4_isWitness_14 rfl rfl) ?_
  refine tcons (ok_zreturn rfl (Or.inl rfl) dX4_isWitness_15) ?_
  exact fun _ h => nomatch h
def sp_X4_isWitness : Spc := fun av s N _ => match av with
  | [.inl (.inl p)] => br (0 ≤ p ∧ p < 6) N s
  | _ => False
set_option maxRecDepth 20000 in
set_option maxHeartbeats 2000000 in
theorem M_X4_isWitness : AMet yX4_isWitness cX4_isWitness 1 (some .boolean) 0 0 sp_X4_isWitness := by
  refine AMet.mk (own := RX4) (by decide) rfl [0] rfl tok_X4_isWitness 200 ?_
  intro av s0 N X h
  unfold sp_X4_isWitness at h
  split at h
  rotate_left
  · exact h.elim
  refine ⟨fun _ => none, ?_, fun pc P hP => nomatch hP⟩
  repeat' (first | apply And.intro | (intro q; exact absurd q (by decide)) | intro _)
  all_goals first | decide | (exact (rfl : (0 : Nat) = 0)) | (exact Nat.le_of_ble_eq_true rfl) | (simp_all [-Int32.not_lt, -Int32.not_le, br]; done) | (simp_all [-Int32.not_lt, -Int32.not_le, ← Int32.not_le, br]; done) | (simp_all [br]; done)
theorem dX4_isDoubt_0 : decode cX4_isDoubt 0 = .ok (.iload_n 0, 1) := by decide +kernel
theorem dX4_isDoubt_1 : decode cX4_isDoubt 1 = .ok (.iconst 1, 1) := by decide +kernel
theorem dX4_isDoubt_2 : decode cX4_isDoubt 2 = .ok (.if_icmp .lt 13, 3) := by decide +kernel
theorem dX4_isDoubt_5 : decode cX4_isDoubt 5 = .ok (.iload_n 0, 1) := by decide +kernel
theorem dX4_isDoubt_6 : decode cX4_isDoubt 6 = .ok (.bipush 127, 2) := by decide +kernel
theorem dX4_isDoubt_8 : decode cX4_isDoubt 8 = .ok (.if_icmp .gt 7, 3) := by decide +kernel
theorem dX4_isDoubt_11 : decode cX4_isDoubt 11 = .ok (.iconst 1, 1) := by decide +kernel
theorem dX4_isDoubt_12 : decode cX4_isDoubt 12 = .ok (.goto 4, 3) := by decide +kernel
theorem dX4_isDoubt_15 : decode cX4_isDoubt 15 = .ok (.iconst 0, 1) := by decide +kernel
theorem dX4_isDoubt_16 : decode cX4_isDoubt 16 = .ok (.ireturn, 1) := by decide +kernel
def tab_X4_isDoubt : List (Nat × Sem) := [(0, op_il 0 1), (1, op_ic 1 2), (2, op_cmp (fun x y => x < y) 15 5), (5, op_il 0 6), (6, op_ic 127 8), (8, op_cmp (fun x y => y < x) 15 11), (11, op_ic 1 12), (12, op_go 16), (15, op_ic 0 16), (16, op_zret)]
set_option maxRecDepth 20000 in
theorem tok_X4_isDoubt : ∀ q ∈ tab_X4_isDoubt, Snd RX4 cX4_isDoubt 1 0 0 (some .boolean) q.1 q.2 := by
  unfold tab_X4_isDoubt
  refine tcons (ok_iload_n dX4_isDoubt_0 rfl rfl) ?_
  refine tcons (ok_iconst dX4_isDoubt_1 rfl rfl) ?_
  refine tcons (ok_icmp_lt dX4_isDoubt_2 rfl rfl) ?_
  refine tcons (ok_iload_n dX4_isDoubt_5 rfl rfl) ?_
  refine tcons (ok_bipush dX4_isDoubt_6 rfl rfl) ?_
  refine tcons (ok_icmp_gt dX4_isDoubt_8 rfl rfl) ?_
  refine tcons (ok_iconst dX4_isDoubt_11 rfl rfl) ?_
  refine tcons (ok_goto dX4_isDoubt_12 rfl) ?_
  refine tcons (ok_iconst dX4_isDoubt_15 rfl rfl) ?_
  refine tcons (ok_zreturn rfl (Or.inl rfl) dX4_isDoubt_16) ?_
  exact fun _ h => nomatch h
def sp_X4_isDoubt : Spc := fun av s N _ => match av with
  | [.inl (.inl p)] => br (1 ≤ p ∧ p ≤ 127) N s
  | _ => False
set_option maxRecDepth 20000 in
set_option maxHeartbeats 2000000 in
theorem M_X4_isDoubt : AMet yX4_isDoubt cX4_isDoubt 1 (some .boolean) 0 0 sp_X4_isDoubt := by
  refine AMet.mk (own := RX4) (by decide) rfl [0] rfl tok_X4_isDoubt 200 ?_
  intro av s0 N X h
  unfold sp_X4_isDoubt at h
  split at h
  rotate_left
  · exact h.elim
  refine ⟨fun _ => none, ?_, fun pc P hP => nomatch hP⟩
  repeat' (first | apply And.intro | (intro q; exact absurd q (by decide)) | intro _)
  all_goals first | decide | (exact (rfl : (0 : Nat) = 0)) | (exact Nat.le_of_ble_eq_true rfl) | (simp_all [-Int32.not_lt, -Int32.not_le, br]; done) | (simp_all [-Int32.not_lt, -Int32.not_le, ← Int32.not_le, br]; done) | (simp_all [br]; done)
theorem dX4_isDay_0 : decode cX4_isDay 0 = .ok (.iload_n 0, 1) := by decide +kernel
theorem dX4_isDay_1 : decode cX4_isDay 1 = .ok (.ifCond .lt 13, 3) := by decide +kernel
theorem dX4_isDay_4 : decode cX4_isDay 4 = .ok (.iload_n 0, 1) := by decide +kernel
theorem dX4_isDay_5 : decode cX4_isDay 5 = .ok (.ldc 252, 2) := by decide +kernel
theorem dX4_isDay_7 : decode cX4_isDay 7 = .ok (.if_icmp .gt 7, 3) := by decide +kernel
theorem dX4_isDay_10 : decode cX4_isDay 10 = .ok (.iconst 1, 1) := by decide +kernel
theorem dX4_isDay_11 : decode cX4_isDay 11 = .ok (.goto 4, 3) := by decide +kernel
theorem dX4_isDay_14 : decode cX4_isDay 14 = .ok (.iconst 0, 1) := by decide +kernel
theorem dX4_isDay_15 : decode cX4_isDay 15 = .ok (.ireturn, 1) := by decide +kernel
def tab_X4_isDay : List (Nat × Sem) := [(0, op_il 0 1), (1, op_if (fun x => x < 0) 14 4), (4, op_il 0 5), (5, op_ic 1000000 7), (7, op_cmp (fun x y => y < x) 14 10), (10, op_ic 1 11), (11, op_go 15), (14, op_ic 0 15), (15, op_zret)]
set_option maxRecDepth 20000 in
theorem tok_X4_isDay : ∀ q ∈ tab_X4_isDay, Snd RX4 cX4_isDay 1 0 0 (some .boolean) q.1 q.2 := by
  unfold tab_X4_isDay
  refine tcons (ok_iload_n dX4_isDay_0 rfl rfl) ?_
  refine tcons (ok_if_lt dX4_isDay_1 rfl rfl) ?_
  refine tcons (ok_iload_n dX4_isDay_4 rfl rfl) ?_
  refine tcons (ok_ldc w_682 dX4_isDay_5 rfl) ?_
  refine tcons (ok_icmp_gt dX4_isDay_7 rfl rfl) ?_
  refine tcons (ok_iconst dX4_isDay_10 rfl rfl) ?_
  refine tcons (ok_goto dX4_isDay_11 rfl) ?_
  refine tcons (ok_iconst dX4_isDay_14 rfl rfl) ?_
  refine tcons (ok_zreturn rfl (Or.inl rfl) dX4_isDay_15) ?_
  exact fun _ h => nomatch h
def sp_X4_isDay : Spc := fun av s N _ => match av with
  | [.inl (.inl p)] => br (0 ≤ p ∧ p ≤ 1000000) N s
  | _ => False
set_option maxRecDepth 20000 in
set_option maxHeartbeats 2000000 in
theorem M_X4_isDay : AMet yX4_isDay cX4_isDay 1 (some .boolean) 0 0 sp_X4_isDay := by
  refine AMet.mk (own := RX4) (by decide) rfl [0] rfl tok_X4_isDay 200 ?_
  intro av s0 N X h
  unfold sp_X4_isDay at h
  split at h
  rotate_left
  · exact h.elim
  refine ⟨fun _ => none, ?_, fun pc P hP => nomatch hP⟩
  repeat' (first | apply And.intro | (intro q; exact absurd q (by decide)) | intro _)
  all_goals first | decide | (exact (rfl : (0 : Nat) = 0)) | (exact Nat.le_of_ble_eq_true rfl) | (simp_all [-Int32.not_lt, -Int32.not_le, br]; done) | (simp_all [-Int32.not_lt, -Int32.not_le, ← Int32.not_le, br]; done) | (simp_all [br]; done)
theorem dX4_checkIndex_0 : decode cX4_checkIndex 0 = .ok (.iload_n 0, 1) := by decide +kernel
theorem dX4_checkIndex_1 : decode cX4_checkIndex 1 = .ok (.ifCond .ne 13, 3) := by decide +kernel
theorem dX4_checkIndex_4 : decode cX4_checkIndex 4 = .ok (.new 235, 3) := by decide +kernel
theorem dX4_checkIndex_7 : decode cX4_checkIndex 7 = .ok (.dup, 1) := by decide +kernel
theorem dX4_checkIndex_8 : decode cX4_checkIndex 8 = .ok (.ldc 237, 2) := by decide +kernel
theorem dX4_checkIndex_10 : decode cX4_checkIndex 10 = .ok (.invokespecial 239, 3) := by decide +kernel
theorem dX4_checkIndex_13 : decode cX4_checkIndex 13 = .ok (.athrow, 1) := by decide +kernel
theorem dX4_checkIndex_14 : decode cX4_checkIndex 14 = .ok (.return_, 1) := by decide +kernel
def tab_X4_checkIndex : List (Nat × Sem) := [(0, op_il 0 1), (1, op_if (fun x => ¬ x = 0) 14 4), (4, op_thr 1), (14, op_vret)]
set_option maxRecDepth 20000 in
theorem tok_X4_checkIndex : ∀ q ∈ tab_X4_checkIndex, Snd RX4 cX4_checkIndex 1 6 1 none q.1 q.2 := by
  unfold tab_X4_checkIndex
  refine tcons (ok_iload_n dX4_checkIndex_0 rfl rfl) ?_
  refine tcons (ok_if_ne dX4_checkIndex_1 rfl rfl) ?_
  refine tcons (ok_throw (text := "there is no such person, vow, cause, judge or place") (x := 1) (by decide +kernel) w_149 w_29 (by decide +kernel) (by decide +kernel) (by decide +kernel) (by decide) dX4_checkIndex_4 dX4_checkIndex_7 dX4_checkIndex_8 dX4_checkIndex_10 dX4_checkIndex_13) ?_
  refine tcons (ok_vreturn rfl dX4_checkIndex_14) ?_
  exact fun _ h => nomatch h
def sp_X4_checkIndex : Spc := fun av s N X => match av with
  | [.inl (.inl x)] => (x = 0 → X 1 s) ∧ (¬ x = 0 → N none s)
  | _ => False
set_option maxRecDepth 20000 in
set_option maxHeartbeats 2000000 in
theorem M_X4_checkIndex : AMet yX4_checkIndex cX4_checkIndex 1 none 6 1 sp_X4_checkIndex := by
  refine AMet.mk (own := RX4) (by decide) rfl [0] rfl tok_X4_checkIndex 200 ?_
  intro av s0 N X h
  unfold sp_X4_checkIndex at h
  split at h
  rotate_left
  · exact h.elim
  refine ⟨fun _ => none, ?_, fun pc P hP => nomatch hP⟩
  repeat' (first | apply And.intro | (intro q; exact absurd q (by decide)) | intro _)
  all_goals first | decide | (exact (rfl : (0 : Nat) = 0)) | (exact Nat.le_of_ble_eq_true rfl) | (simp_all [-Int32.not_lt, -Int32.not_le]; done) | (simp_all [-Int32.not_lt, -Int32.not_le, ← Int32.not_le]; done) | (simp_all []; done)
theorem dX4_checkArgument_0 : decode cX4_checkArgument 0 = .ok (.iload_n 0, 1) := by decide +kernel
theorem dX4_checkArgument_1 : decode cX4_checkArgument 1 = .ok (.ifCond .ne 13, 3) := by decide +kernel
theorem dX4_checkArgument_4 : decode cX4_checkArgument 4 = .ok (.new 242, 3) := by decide +kernel
theorem dX4_checkArgument_7 : decode cX4_checkArgument 7 = .ok (.dup, 1) := by decide +kernel
theorem dX4_checkArgument_8 : decode cX4_checkArgument 8 = .ok (.ldc 244, 2) := by decide +kernel
theorem dX4_checkArgument_10 : decode cX4_checkArgument 10 = .ok (.invokespecial 246, 3) := by decide +kernel
theorem dX4_checkArgument_13 : decode cX4_checkArgument 13 = .ok (.athrow, 1) := by decide +kernel
theorem dX4_checkArgument_14 : decode cX4_checkArgument 14 = .ok (.return_, 1) := by decide +kernel
def tab_X4_checkArgument : List (Nat × Sem) := [(0, op_il 0 1), (1, op_if (fun x => ¬ x = 0) 14 4), (4, op_thr 2), (14, op_vret)]
set_option maxRecDepth 20000 in
theorem tok_X4_checkArgument : ∀ q ∈ tab_X4_checkArgument, Snd RX4 cX4_checkArgument 1 6 1 none q.1 q.2 := by
  unfold tab_X4_checkArgument
  refine tcons (ok_iload_n dX4_checkArgument_0 rfl rfl) ?_
  refine tcons (ok_if_ne dX4_checkArgument_1 rfl rfl) ?_
  refine tcons (ok_throw (text := "an argument is out of range") (x := 2) (by decide +kernel) w_220 w_30 (by decide +kernel) (by decide +kernel) (by decide +kernel) (by decide) dX4_checkArgument_4 dX4_checkArgument_7 dX4_checkArgument_8 dX4_checkArgument_10 dX4_checkArgument_13) ?_
  refine tcons (ok_vreturn rfl dX4_checkArgument_14) ?_
  exact fun _ h => nomatch h
def sp_X4_checkArgument : Spc := fun av s N X => match av with
  | [.inl (.inl x)] => (x = 0 → X 2 s) ∧ (¬ x = 0 → N none s)
  | _ => False
set_option maxRecDepth 20000 in
set_option maxHeartbeats 2000000 in
theorem M_X4_checkArgument : AMet yX4_checkArgument cX4_checkArgument 1 none 6 1 sp_X4_checkArgument := by
  refine AMet.mk (own := RX4) (by decide) rfl [0] rfl tok_X4_checkArgument 200 ?_
  intro av s0 N X h
  unfold sp_X4_checkArgument at h
  split at h
  rotate_left
  · exact h.elim
  refine ⟨fun _ => none, ?_, fun pc P hP => nomatch hP⟩
  repeat' (first | apply And.intro | (intro q; exact absurd q (by decide)) | intro _)
  all_goals first | decide | (exact (rfl : (0 : Nat) = 0)) | (exact Nat.le_of_ble_eq_true rfl) | (simp_all [-Int32.not_lt, -Int32.not_le]; done) | (simp_all [-Int32.not_lt, -Int32.not_le, ← Int32.not_le]; done) | (simp_all []; done)
theorem dX4_checkPossible_0 : decode cX4_checkPossible 0 = .ok (.iload_n 0, 1) := by decide +kernel
theorem dX4_checkPossible_1 : decode cX4_checkPossible 1 = .ok (.ifCond .ne 13, 3) := by decide +kernel
theorem dX4_checkPossible_4 : decode cX4_checkPossible 4 = .ok (.new 247, 3) := by decide +kernel
theorem dX4_checkPossible_7 : decode cX4_checkPossible 7 = .ok (.dup, 1) := by decide +kernel
theorem dX4_checkPossible_8 : decode cX4_checkPossible 8 = .ok (.ldc 249, 2) := by decide +kernel
theorem dX4_checkPossible_10 : decode cX4_checkPossible 10 = .ok (.invokespecial 251, 3) := by decide +kernel
theorem dX4_checkPossible_13 : decode cX4_checkPossible 13 = .ok (.athrow, 1) := by decide +kernel
theorem dX4_checkPossible_14 : decode cX4_checkPossible 14 = .ok (.return_, 1) := by decide +kernel
def tab_X4_checkPossible : List (Nat × Sem) := [(0, op_il 0 1), (1, op_if (fun x => ¬ x = 0) 14 4), (4, op_thr 3), (14, op_vret)]
set_option maxRecDepth 20000 in
theorem tok_X4_checkPossible : ∀ q ∈ tab_X4_checkPossible, Snd RX4 cX4_checkPossible 1 6 1 none q.1 q.2 := by
  unfold tab_X4_checkPossible
  refine tcons (ok_iload_n dX4_checkPossible_0 rfl rfl) ?_
  refine tcons (ok_if_ne dX4_checkPossible_1 rfl rfl) ?_
  refine tcons (ok_throw (text := "that is not possible now") (x := 3) (by decide +kernel) w_243 w_31 (by decide +kernel) (by decide +kernel) (by decide +kernel) (by decide) dX4_checkPossible_4 dX4_checkPossible_7 dX4_checkPossible_8 dX4_checkPossible_10 dX4_checkPossible_13) ?_
  refine tcons (ok_vreturn rfl dX4_checkPossible_14) ?_
  exact fun _ h => nomatch h
def sp_X4_checkPossible : Spc := fun av s N X => match av with
  | [.inl (.inl x)] => (x = 0 → X 3 s) ∧ (¬ x = 0 → N none s)
  | _ => False
set_option maxRecDepth 20000 in
set_option maxHeartbeats 2000000 in
theorem M_X4_checkPossible : AMet yX4_checkPossible cX4_checkPossible 1 none 6 1 sp_X4_checkPossible := by
  refine AMet.mk (own := RX4) (by decide) rfl [0] rfl tok_X4_checkPossible 200 ?_
  intro av s0 N X h
  unfold sp_X4_checkPossible at h
  split at h
  rotate_left
  · exact h.elim
  refine ⟨fun _ => none, ?_, fun pc P hP => nomatch hP⟩
  repeat' (first | apply And.intro | (intro q; exact absurd q (by decide)) | intro _)
  all_goals first | decide | (exact (rfl : (0 : Nat) = 0)) | (exact Nat.le_of_ble_eq_true rfl) | (simp_all [-Int32.not_lt, -Int32.not_le]; done) | (simp_all [-Int32.not_lt, -Int32.not_le, ← Int32.not_le]; done) | (simp_all []; done)

