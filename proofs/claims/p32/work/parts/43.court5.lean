/-! VowCourt's public methods: persons -/
theorem w_6 : (.selects "VowCourt" ⟨"VowCourt", "endVowsOf", "(I)I"⟩ ⟨"VowCourt", "endVowsOf", "(I)I"⟩ : Cond) ∈ TB := TB_mem (List.mem_of_getElem? (i := 6) (by decide +kernel)) rfl
theorem w_103 : (.fieldLink "VowCourt" 34 "VowCourt" "facultyEnds" "[[I" : Cond) ∈ TB := TB_mem (List.mem_of_getElem? (i := 103) (by decide +kernel)) rfl
theorem w_104 : (.fieldLink "VowCourt" 37 "VowCourt" "errors" "[Z" : Cond) ∈ TB := TB_mem (List.mem_of_getElem? (i := 104) (by decide +kernel)) rfl
theorem w_217 : (.methodLink "VowCourt" 53 ⟨"VowCourt", "checkArgument", "(Z)V"⟩ : Cond) ∈ TB := TB_mem (List.mem_of_getElem? (i := 217) (by decide +kernel)) rfl
theorem w_218 : (.static ⟨"VowCourt", "checkArgument", "(Z)V"⟩ : Cond) ∈ TB := TB_mem (List.mem_of_getElem? (i := 218) (by decide +kernel)) rfl
theorem w_219 : (.code yX4_checkArgument cX4_checkArgument 1 none : Cond) ∈ TB := TB_mem (List.mem_of_getElem? (i := 219) (by decide +kernel)) rfl
theorem w_237 : (.methodLink "VowCourt" 57 ⟨"VowCourt", "isPlace", "(I)Z"⟩ : Cond) ∈ TB := TB_mem (List.mem_of_getElem? (i := 237) (by decide +kernel)) rfl
theorem w_238 : (.static ⟨"VowCourt", "isPlace", "(I)Z"⟩ : Cond) ∈ TB := TB_mem (List.mem_of_getElem? (i := 238) (by decide +kernel)) rfl
theorem w_239 : (.code yX4_isPlace cX4_isPlace 1 (some .boolean) : Cond) ∈ TB := TB_mem (List.mem_of_getElem? (i := 239) (by decide +kernel)) rfl
theorem w_240 : (.methodLink "VowCourt" 64 ⟨"VowCourt", "checkPossible", "(Z)V"⟩ : Cond) ∈ TB := TB_mem (List.mem_of_getElem? (i := 240) (by decide +kernel)) rfl
theorem w_241 : (.static ⟨"VowCourt", "checkPossible", "(Z)V"⟩ : Cond) ∈ TB := TB_mem (List.mem_of_getElem? (i := 241) (by decide +kernel)) rfl
theorem w_242 : (.code yX4_checkPossible cX4_checkPossible 1 none : Cond) ∈ TB := TB_mem (List.mem_of_getElem? (i := 242) (by decide +kernel)) rfl
theorem w_281 : (.fieldLink "VowCourt" 84 "VowCourt$Person" "riteNow" "I" : Cond) ∈ TB := TB_mem (List.mem_of_getElem? (i := 281) (by decide +kernel)) rfl
theorem w_285 : (.fieldLink "VowCourt" 97 "VowCourt$Person" "banned" "Z" : Cond) ∈ TB := TB_mem (List.mem_of_getElem? (i := 285) (by decide +kernel)) rfl
theorem w_397 : (.methodLink "VowCourt" 100 ⟨"VowCourt", "endVowsOf", "(I)I"⟩ : Cond) ∈ TB := TB_mem (List.mem_of_getElem? (i := 397) (by decide +kernel)) rfl
theorem w_399 : (.instanceMethod ⟨"VowCourt", "endVowsOf", "(I)I"⟩ : Cond) ∈ TB := TB_mem (List.mem_of_getElem? (i := 399) (by decide +kernel)) rfl
theorem w_400 : (.code yX4_endVowsOf cX4_endVowsOf 5 (some .int) : Cond) ∈ TB := TB_mem (List.mem_of_getElem? (i := 400) (by decide +kernel)) rfl
theorem w_446 : (.methodLink "VowCourt" 112 ⟨"VowCourt", "isWitness", "(I)Z"⟩ : Cond) ∈ TB := TB_mem (List.mem_of_getElem? (i := 446) (by decide +kernel)) rfl
theorem w_447 : (.static ⟨"VowCourt", "isWitness", "(I)Z"⟩ : Cond) ∈ TB := TB_mem (List.mem_of_getElem? (i := 447) (by decide +kernel)) rfl
theorem w_448 : (.code yX4_isWitness cX4_isWitness 1 (some .boolean) : Cond) ∈ TB := TB_mem (List.mem_of_getElem? (i := 448) (by decide +kernel)) rfl
/-- a check: what it throws, what follows -/
def chk (P : Prop) (x : Nat) (s : Sg) (X : Xt) (R : Prop) : Prop := (¬ P → X x s) ∧ (P → R)
theorem CI_st {s : Sg} {t i j : Nat} {v : Int32} (h13 : ¬ t = 13) (h14 : ¬ t = 14) (h : CI s) : CI (stS s t i j v) := by
  have h := of_eq_true h
  refine eq_true ⟨h.1, h.2.1, h.2.2.1, h.2.2.2.1, fun a ha => ?_, fun a ha => ?_⟩
  · rw [stS_get, if_neg (fun z => h13 z.1.symm), stS_get, if_neg (fun z => h13 z.1.symm)]
    exact h.2.2.2.2.1 a ha
  · rw [stS_get, if_neg (fun z => h14 z.1.symm)]
    exact h.2.2.2.2.2 a ha
theorem Ib_b {p : Int32} {n : Nat} (hn : n < 1000) (h0 : 0 ≤ p) (h : p < nI n) : Ib p n := by
  obtain ⟨i, hi, rfl⟩ := inC_nI h0 h (by omega)
  exact nIb hi (by omega)
theorem dX4_rite_0 : decode cX4_rite 0 = .ok (.aload_n 0, 1) := by decide +kernel
theorem dX4_rite_1 : decode cX4_rite 1 = .ok (.iload_n 1, 1) := by decide +kernel
theorem dX4_rite_2 : decode cX4_rite 2 = .ok (.invokevirtual 80, 3) := by decide +kernel
theorem dX4_rite_5 : decode cX4_rite 5 = .ok (.astore_n 3, 1) := by decide +kernel
theorem dX4_rite_6 : decode cX4_rite 6 = .ok (.iload_n 2, 1) := by decide +kernel
theorem dX4_rite_7 : decode cX4_rite 7 = .ok (.ifCond .lt 12, 3) := by decide +kernel
theorem dX4_rite_10 : decode cX4_rite 10 = .ok (.iload_n 2, 1) := by decide +kernel
theorem dX4_rite_11 : decode cX4_rite 11 = .ok (.iconst 3, 1) := by decide +kernel
theorem dX4_rite_12 : decode cX4_rite 12 = .ok (.if_icmp .ge 7, 3) := by decide +kernel
theorem dX4_rite_15 : decode cX4_rite 15 = .ok (.iconst 1, 1) := by decide +kernel
theorem dX4_rite_16 : decode cX4_rite 16 = .ok (.goto 4, 3) := by decide +kernel
theorem dX4_rite_19 : decode cX4_rite 19 = .ok (.iconst 0, 1) := by decide +kernel
theorem dX4_rite_20 : decode cX4_rite 20 = .ok (.invokestatic 53, 3) := by decide +kernel
theorem dX4_rite_23 : decode cX4_rite 23 = .ok (.aload_n 3, 1) := by decide +kernel
theorem dX4_rite_24 : decode cX4_rite 24 = .ok (.getfield 84, 3) := by decide +kernel
theorem dX4_rite_27 : decode cX4_rite 27 = .ok (.istore 4, 2) := by decide +kernel
theorem dX4_rite_29 : decode cX4_rite 29 = .ok (.aload_n 3, 1) := by decide +kernel
theorem dX4_rite_30 : decode cX4_rite 30 = .ok (.iload_n 2, 1) := by decide +kernel
theorem dX4_rite_31 : decode cX4_rite 31 = .ok (.putfield 84, 3) := by decide +kernel
theorem dX4_rite_34 : decode cX4_rite 34 = .ok (.iload 4, 2) := by decide +kernel
theorem dX4_rite_36 : decode cX4_rite 36 = .ok (.ireturn, 1) := by decide +kernel
def tab_X4_rite : List (Nat × Sem) := [(0, op_al 0 1), (1, op_il 1 2), (2, op_callV 6 sp_X4_personAt 2 1 5), (5, op_as 3 6), (6, op_il 2 7), (7, op_if (fun x => x < 0) 19 10), (10, op_il 2 11), (11, op_ic 3 12), (12, op_cmp (fun x y => y ≤ x) 19 15), (15, op_ic 1 16), (16, op_go 20), (19, op_ic 0 20), (20, op_call sp_X4_checkArgument 1 1 23), (23, op_al 3 24), (24, op_gf 4 2 27), (27, op_is 4 29), (29, op_al 3 30), (30, op_il 2 31), (31, op_pf 4 2 34), (34, op_il 4 36), (36, op_iret)]
set_option maxRecDepth 20000 in
theorem tok_X4_rite : ∀ q ∈ tab_X4_rite, Snd RX4 cX4_rite 5 8 2 (some .int) q.1 q.2 := by
  unfold tab_X4_rite
  refine tcons (ok_aload_n dX4_rite_0 rfl rfl) ?_
  refine tcons (ok_iload_n dX4_rite_1 rfl rfl) ?_
  refine tcons (ok_invokevirtual M_X4_personAt (C := RX4) (T := TX4) (nf := 8) rfl w_360 w_362 w_5 w_20 w_363 ⟨rfl, by decide, by decide, by decide +kernel⟩ (by decide) (by decide) dX4_rite_2 rfl) ?_
  refine tcons (ok_astore_n dX4_rite_5 rfl (by decide) rfl) ?_
  refine tcons (ok_iload_n dX4_rite_6 rfl rfl) ?_
  refine tcons (ok_if_lt dX4_rite_7 rfl rfl) ?_
  refine tcons (ok_iload_n dX4_rite_10 rfl rfl) ?_
  refine tcons (ok_iconst dX4_rite_11 rfl rfl) ?_
  refine tcons (ok_icmp_ge dX4_rite_12 rfl rfl) ?_
  refine tcons (ok_iconst dX4_rite_15 rfl rfl) ?_
  refine tcons (ok_goto dX4_rite_16 rfl) ?_
  refine tcons (ok_iconst dX4_rite_19 rfl rfl) ?_
  refine tcons (ok_invokestatic M_X4_checkArgument w_217 w_218 w_20 w_219 ⟨by decide, by decide, by decide +kernel⟩ (by decide) (by decide) dX4_rite_20 rfl) ?_
  refine tcons (ok_aload_n dX4_rite_23 rfl rfl) ?_
  refine tcons (ok_getfield (C := RX2) (T := TX2) (n := 6) rfl in_X2 (by decide) w_281 dX4_rite_24 rfl) ?_
  refine tcons (ok_istore dX4_rite_27 (by decide) rfl) ?_
  refine tcons (ok_aload_n dX4_rite_29 rfl rfl) ?_
  refine tcons (ok_iload_n dX4_rite_30 rfl rfl) ?_
  refine tcons (ok_putfield (C := RX2) (T := TX2) (n := 6) tyX2 .int rfl in_X2 tyX2_ok nmX2 (by decide) rfl w_281 rfl (Or.inl rfl) dX4_rite_31 rfl) ?_
  refine tcons (ok_iload dX4_rite_34 rfl) ?_
  refine tcons (ok_ireturn rfl dX4_rite_36) ?_
  exact fun _ h => nomatch h
def sp_X4_rite : Spc := fun av s N X => match av with
  | [.inl (.inr (1, 0)), .inl (.inl p), .inl (.inl r)] => CI s ∧ chk (iC s 0 p) 1 s X (chk (0 ≤ r ∧ r < 3) 2 s X (N (some (aI (s.2.1 12 (cl p) 2))) (stS s 12 (cl p) 2 r)))
  | _ => False
set_option maxRecDepth 20000 in
set_option maxHeartbeats 2000000 in
theorem M_X4_rite : AMet yX4_rite cX4_rite 5 (some .int) 8 2 sp_X4_rite := by
  refine AMet.mk (own := RX4) (by decide) rfl [0, 1, 2, 3, 4] rfl tok_X4_rite 200 ?_
  intro av s0 N X h
  unfold sp_X4_rite at h
  split at h
  rotate_left
  · exact h.elim
  refine ⟨fun _ => none, ?_, fun pc P hP => nomatch hP⟩
  repeat' (first | apply And.intro | (intro q; exact absurd q (by decide)) | intro _)
  all_goals first | decide | (exact (rfl : (0 : Nat) = 0)) | (exact Nat.le_of_ble_eq_true rfl) | (exact h.1) | (exact iC_p h.1 (by assumption)) | (simp_all [-Int32.not_lt, -Int32.not_le, chk]; done) | (simp_all [-Int32.not_lt, -Int32.not_le, ← Int32.not_le, chk]; done) | (simp_all [chk]; done)
theorem dX4_home_0 : decode cX4_home 0 = .ok (.aload_n 0, 1) := by decide +kernel
theorem dX4_home_1 : decode cX4_home 1 = .ok (.iload_n 1, 1) := by decide +kernel
theorem dX4_home_2 : decode cX4_home 2 = .ok (.invokevirtual 80, 3) := by decide +kernel
theorem dX4_home_5 : decode cX4_home 5 = .ok (.astore_n 3, 1) := by decide +kernel
theorem dX4_home_6 : decode cX4_home 6 = .ok (.iload_n 2, 1) := by decide +kernel
theorem dX4_home_7 : decode cX4_home 7 = .ok (.invokestatic 57, 3) := by decide +kernel
theorem dX4_home_10 : decode cX4_home 10 = .ok (.invokestatic 53, 3) := by decide +kernel
theorem dX4_home_13 : decode cX4_home 13 = .ok (.aload_n 3, 1) := by decide +kernel
theorem dX4_home_14 : decode cX4_home 14 = .ok (.getfield 87, 3) := by decide +kernel
theorem dX4_home_17 : decode cX4_home 17 = .ok (.istore 4, 2) := by decide +kernel
theorem dX4_home_19 : decode cX4_home 19 = .ok (.aload_n 3, 1) := by decide +kernel
theorem dX4_home_20 : decode cX4_home 20 = .ok (.iload_n 2, 1) := by decide +kernel
theorem dX4_home_21 : decode cX4_home 21 = .ok (.putfield 87, 3) := by decide +kernel
theorem dX4_home_24 : decode cX4_home 24 = .ok (.iload 4, 2) := by decide +kernel
theorem dX4_home_26 : decode cX4_home 26 = .ok (.ireturn, 1) := by decide +kernel
def tab_X4_home : List (Nat × Sem) := [(0, op_al 0 1), (1, op_il 1 2), (2, op_callV 6 sp_X4_personAt 2 1 5), (5, op_as 3 6), (6, op_il 2 7), (7, op_call sp_X4_isPlace 1 0 10), (10, op_call sp_X4_checkArgument 1 1 13), (13, op_al 3 14), (14, op_gf 4 1 17), (17, op_is 4 19), (19, op_al 3 20), (20, op_il 2 21), (21, op_pf 4 1 24), (24, op_il 4 26), (26, op_iret)]
set_option maxRecDepth 20000 in
theorem tok_X4_home : ∀ q ∈ tab_X4_home, Snd RX4 cX4_home 5 8 2 (some .int) q.1 q.2 := by
  unfold tab_X4_home
  refine tcons (ok_aload_n dX4_home_0 rfl rfl) ?_
  refine tcons (ok_iload_n dX4_home_1 rfl rfl) ?_
  refine tcons (ok_invokevirtual M_X4_personAt (C := RX4) (T := TX4) (nf := 8) rfl w_360 w_362 w_5 w_20 w_363 ⟨rfl, by decide, by decide, by decide +kernel⟩ (by decide) (by decide) dX4_home_2 rfl) ?_
  refine tcons (ok_astore_n dX4_home_5 rfl (by decide) rfl) ?_
  refine tcons (ok_iload_n dX4_home_6 rfl rfl) ?_
  refine tcons (ok_invokestatic M_X4_isPlace w_237 w_238 w_20 w_239 ⟨by decide, by decide, by decide +kernel⟩ (by decide) (by decide) dX4_home_7 rfl) ?_
  refine tcons (ok_invokestatic M_X4_checkArgument w_217 w_218 w_20 w_219 ⟨by decide, by decide, by decide +kernel⟩ (by decide) (by decide) dX4_home_10 rfl) ?_
  refine tcons (ok_aload_n dX4_home_13 rfl rfl) ?_
  refine tcons (ok_getfield (C := RX2) (T := TX2) (n := 6) rfl in_X2 (by decide) w_279 dX4_home_14 rfl) ?_
  refine tcons (ok_istore dX4_home_17 (by decide) rfl) ?_
  refine tcons (ok_aload_n dX4_home_19 rfl rfl) ?_
  refine tcons (ok_iload_n dX4_home_20 rfl rfl) ?_
  refine tcons (ok_putfield (C := RX2) (T := TX2) (n := 6) tyX2 .int rfl in_X2 tyX2_ok nmX2 (by decide) rfl w_279 rfl (Or.inl rfl) dX4_home_21 rfl) ?_
  refine tcons (ok_iload dX4_home_24 rfl) ?_
  refine tcons (ok_ireturn rfl dX4_home_26) ?_
  exact fun _ h => nomatch h
def sp_X4_home : Spc := fun av s N X => match av with
  | [.inl (.inr (1, 0)), .inl (.inl p), .inl (.inl r)] => CI s ∧ chk (iC s 0 p) 1 s X (chk (0 ≤ r ∧ r < 8) 2 s X (N (some (aI (s.2.1 12 (cl p) 1))) (stS s 12 (cl p) 1 r)))
  | _ => False
set_option maxRecDepth 20000 in
set_option maxHeartbeats 2000000 in
theorem M_X4_home : AMet yX4_home cX4_home 5 (some .int) 8 2 sp_X4_home := by
  refine AMet.mk (own := RX4) (by decide) rfl [0, 1, 2, 3, 4] rfl tok_X4_home 200 ?_
  intro av s0 N X h
  unfold sp_X4_home at h
  split at h
  rotate_left
  · exact h.elim
  refine ⟨fun _ => none, ?_, fun pc P hP => nomatch hP⟩
  repeat' (first | apply And.intro | (intro q; exact absurd q (by decide)) | intro _)
  all_goals first | decide | (exact (rfl : (0 : Nat) = 0)) | (exact Nat.le_of_ble_eq_true rfl) | (exact h.1) | (exact iC_p h.1 (by assumption)) | (simp_all [-Int32.not_lt, -Int32.not_le, chk]; done) | (simp_all [-Int32.not_lt, -Int32.not_le, ← Int32.not_le, chk]; done) | (simp_all [chk]; done)
theorem dX4_order_0 : decode cX4_order 0 = .ok (.aload_n 0, 1) := by decide +kernel
theorem dX4_order_1 : decode cX4_order 1 = .ok (.iload_n 1, 1) := by decide +kernel
theorem dX4_order_2 : decode cX4_order 2 = .ok (.invokevirtual 80, 3) := by decide +kernel
theorem dX4_order_5 : decode cX4_order 5 = .ok (.astore_n 2, 1) := by decide +kernel
theorem dX4_order_6 : decode cX4_order 6 = .ok (.aload_n 2, 1) := by decide +kernel
theorem dX4_order_7 : decode cX4_order 7 = .ok (.getfield 90, 3) := by decide +kernel
theorem dX4_order_10 : decode cX4_order 10 = .ok (.ifCond .eq 14, 3) := by decide +kernel
theorem dX4_order_13 : decode cX4_order 13 = .ok (.aload_n 2, 1) := by decide +kernel
theorem dX4_order_14 : decode cX4_order 14 = .ok (.getfield 94, 3) := by decide +kernel
theorem dX4_order_17 : decode cX4_order 17 = .ok (.ifCond .ne 7, 3) := by decide +kernel
theorem dX4_order_20 : decode cX4_order 20 = .ok (.iconst 1, 1) := by decide +kernel
theorem dX4_order_21 : decode cX4_order 21 = .ok (.goto 4, 3) := by decide +kernel
theorem dX4_order_24 : decode cX4_order 24 = .ok (.iconst 0, 1) := by decide +kernel
theorem dX4_order_25 : decode cX4_order 25 = .ok (.invokestatic 64, 3) := by decide +kernel
theorem dX4_order_28 : decode cX4_order 28 = .ok (.aload_n 2, 1) := by decide +kernel
theorem dX4_order_29 : decode cX4_order 29 = .ok (.iconst 1, 1) := by decide +kernel
theorem dX4_order_30 : decode cX4_order 30 = .ok (.putfield 94, 3) := by decide +kernel
theorem dX4_order_33 : decode cX4_order 33 = .ok (.return_, 1) := by decide +kernel
def tab_X4_order : List (Nat × Sem) := [(0, op_al 0 1), (1, op_il 1 2), (2, op_callV 6 sp_X4_personAt 2 1 5), (5, op_as 2 6), (6, op_al 2 7), (7, op_gf 4 5 10), (10, op_if (fun x => x = 0) 24 13), (13, op_al 2 14), (14, op_gf 4 3 17), (17, op_if (fun x => ¬ x = 0) 24 20), (20, op_ic 1 21), (21, op_go 25), (24, op_ic 0 25), (25, op_call sp_X4_checkPossible 1 1 28), (28, op_al 2 29), (29, op_ic 1 30), (30, op_pf 4 3 33), (33, op_vret)]
set_option maxRecDepth 20000 in
theorem tok_X4_order : ∀ q ∈ tab_X4_order, Snd RX4 cX4_order 3 8 2 none q.1 q.2 := by
  unfold tab_X4_order
  refine tcons (ok_aload_n dX4_order_0 rfl rfl) ?_
  refine tcons (ok_iload_n dX4_order_1 rfl rfl) ?_
  refine tcons (ok_invokevirtual M_X4_personAt (C := RX4) (T := TX4) (nf := 8) rfl w_360 w_362 w_5 w_20 w_363 ⟨rfl, by decide, by decide, by decide +kernel⟩ (by decide) (by decide) dX4_order_2 rfl) ?_
  refine tcons (ok_astore_n dX4_order_5 rfl (by decide) rfl) ?_
  refine tcons (ok_aload_n dX4_order_6 rfl rfl) ?_
  refine tcons (ok_getfield (C := RX2) (T := TX2) (n := 6) rfl in_X2 (by decide) w_287 dX4_order_7 rfl) ?_
  refine tcons (ok_if_eq dX4_order_10 rfl rfl) ?_
  refine tcons (ok_aload_n dX4_order_13 rfl rfl) ?_
  refine tcons (ok_getfield (C := RX2) (T := TX2) (n := 6) rfl in_X2 (by decide) w_283 dX4_order_14 rfl) ?_
  refine tcons (ok_if_ne dX4_order_17 rfl rfl) ?_
  refine tcons (ok_iconst dX4_order_20 rfl rfl) ?_
  refine tcons (ok_goto dX4_order_21 rfl) ?_
  refine tcons (ok_iconst dX4_order_24 rfl rfl) ?_
  refine tcons (ok_invokestatic M_X4_checkPossible w_240 w_241 w_20 w_242 ⟨by decide, by decide, by decide +kernel⟩ (by decide) (by decide) dX4_order_25 rfl) ?_
  refine tcons (ok_aload_n dX4_order_28 rfl rfl) ?_
  refine tcons (ok_iconst dX4_order_29 rfl rfl) ?_
  refine tcons (ok_putfield (C := RX2) (T := TX2) (n := 6) tyX2 .boolean rfl in_X2 tyX2_ok nmX2 (by decide) rfl w_283 rfl (Or.inr ⟨rfl, zf_4_3⟩) dX4_order_30 rfl) ?_
  refine tcons (ok_vreturn rfl dX4_order_33) ?_
  exact fun _ h => nomatch h
def sp_X4_order : Spc := fun av s N X => match av with
  | [.inl (.inr (1, 0)), .inl (.inl p)] => CI s ∧ chk (iC s 0 p) 1 s X (chk (¬ s.2.1 12 (cl p) 5 = 0 ∧ s.2.1 12 (cl p) 3 = 0) 3 s X (N none (stS s 12 (cl p) 3 1)))
  | _ => False
set_option maxRecDepth 20000 in
set_option maxHeartbeats 2000000 in
theorem M_X4_order : AMet yX4_order cX4_order 3 none 8 2 sp_X4_order := by
  refine AMet.mk (own := RX4) (by decide) rfl [0, 1, 2] rfl tok_X4_order 200 ?_
  intro av s0 N X h
  unfold sp_X4_order at h
  split at h
  rotate_left
  · exact h.elim
  refine ⟨fun _ => none, ?_, fun pc P hP => nomatch hP⟩
  repeat' (first | apply And.intro | (intro q; exact absurd q (by decide)) | intro _)
  all_goals first | decide | (exact (rfl : (0 : Nat) = 0)) | (exact Nat.le_of_ble_eq_true rfl) | (exact h.1) | (exact iC_p h.1 (by assumption)) | (simp_all [-Int32.not_lt, -Int32.not_le, chk]; done) | (simp_all [-Int32.not_lt, -Int32.not_le, ← Int32.not_le, chk]; done) | (simp_all [chk]; done)
theorem dX4_ban_0 : decode cX4_ban 0 = .ok (.aload_n 0, 1) := by decide +kernel
theorem dX4_ban_1 : decode cX4_ban 1 = .ok (.iload_n 1, 1) := by decide +kernel
theorem dX4_ban_2 : decode cX4_ban 2 = .ok (.invokevirtual 80, 3) := by decide +kernel
theorem dX4_ban_5 : decode cX4_ban 5 = .ok (.astore_n 2, 1) := by decide +kernel
theorem dX4_ban_6 : decode cX4_ban 6 = .ok (.aload_n 2, 1) := by decide +kernel
theorem dX4_ban_7 : decode cX4_ban 7 = .ok (.aload_n 2, 1) := by decide +kernel
theorem dX4_ban_8 : decode cX4_ban 8 = .ok (.getfield 97, 3) := by decide +kernel
theorem dX4_ban_11 : decode cX4_ban 11 = .ok (.ifCond .ne 7, 3) := by decide +kernel
theorem dX4_ban_14 : decode cX4_ban 14 = .ok (.iconst 1, 1) := by decide +kernel
theorem dX4_ban_15 : decode cX4_ban 15 = .ok (.goto 4, 3) := by decide +kernel
theorem dX4_ban_18 : decode cX4_ban 18 = .ok (.iconst 0, 1) := by decide +kernel
theorem dX4_ban_19 : decode cX4_ban 19 = .ok (.putfield 97, 3) := by decide +kernel
theorem dX4_ban_22 : decode cX4_ban 22 = .ok (.aload_n 2, 1) := by decide +kernel
theorem dX4_ban_23 : decode cX4_ban 23 = .ok (.getfield 97, 3) := by decide +kernel
theorem dX4_ban_26 : decode cX4_ban 26 = .ok (.ireturn, 1) := by decide +kernel
def tab_X4_ban : List (Nat × Sem) := [(0, op_al 0 1), (1, op_il 1 2), (2, op_callV 6 sp_X4_personAt 2 1 5), (5, op_as 2 6), (6, op_al 2 7), (7, op_al 2 8), (8, op_gf 4 4 11), (11, op_if (fun x => ¬ x = 0) 18 14), (14, op_ic 1 15), (15, op_go 19), (18, op_ic 0 19), (19, op_pf 4 4 22), (22, op_al 2 23), (23, op_gf 4 4 26), (26, op_zret)]
set_option maxRecDepth 20000 in
theorem tok_X4_ban : ∀ q ∈ tab_X4_ban, Snd RX4 cX4_ban 3 8 1 (some .boolean) q.1 q.2 := by
  unfold tab_X4_ban
  refine tcons (ok_aload_n dX4_ban_0 rfl rfl) ?_
  refine tcons (ok_iload_n dX4_ban_1 rfl rfl) ?_
  refine tcons (ok_invokevirtual M_X4_personAt (C := RX4) (T := TX4) (nf := 8) rfl w_360 w_362 w_5 w_20 w_363 ⟨rfl, by decide, by decide, by decide +kernel⟩ (by decide) (by decide) dX4_ban_2 rfl) ?_
  refine tcons (ok_astore_n dX4_ban_5 rfl (by decide) rfl) ?_
  refine tcons (ok_aload_n dX4_ban_6 rfl rfl) ?_
  refine tcons (ok_aload_n dX4_ban_7 rfl rfl) ?_
  refine tcons (ok_getfield (C := RX2) (T := TX2) (n := 6) rfl in_X2 (by decide) w_285 dX4_ban_8 rfl) ?_
  refine tcons (ok_if_ne dX4_ban_11 rfl rfl) ?_
  refine tcons (ok_iconst dX4_ban_14 rfl rfl) ?_
  refine tcons (ok_goto dX4_ban_15 rfl) ?_
  refine tcons (ok_iconst dX4_ban_18 rfl rfl) ?_
  refine tcons (ok_putfield (C := RX2) (T := TX2) (n := 6) tyX2 .boolean rfl in_X2 tyX2_ok nmX2 (by decide) rfl w_285 rfl (Or.inr ⟨rfl, zf_4_4⟩) dX4_ban_19 rfl) ?_
  refine tcons (ok_aload_n dX4_ban_22 rfl rfl) ?_
  refine tcons (ok_getfield (C := RX2) (T := TX2) (n := 6) rfl in_X2 (by decide) w_285 dX4_ban_23 rfl) ?_
  refine tcons (ok_zreturn rfl (Or.inl rfl) dX4_ban_26) ?_
  exact fun _ h => nomatch h
def sp_X4_ban : Spc := fun av s N X => match av with
  | [.inl (.inr (1, 0)), .inl (.inl p)] => CI s ∧ chk (iC s 0 p) 1 s X ((s.2.1 12 (cl p) 4 = 0 → N (some (aI 1)) (stS s 12 (cl p) 4 1)) ∧ (¬ s.2.1 12 (cl p) 4 = 0 → N (some (aI 0)) (stS s 12 (cl p) 4 0)))
  | _ => False
set_option maxRecDepth 20000 in
set_option maxHeartbeats 2000000 in
theorem M_X4_ban : AMet yX4_ban cX4_ban 3 (some .boolean) 8 1 sp_X4_ban := by
  refine AMet.mk (own := RX4) (by decide) rfl [0, 1, 2] rfl tok_X4_ban 200 ?_
  intro av s0 N X h
  unfold sp_X4_ban at h
  split at h
  rotate_left
  · exact h.elim
  refine ⟨fun _ => none, ?_, fun pc P hP => nomatch hP⟩
  repeat' (first | apply And.intro | (intro q; exact absurd q (by decide)) | intro _)
  all_goals first | decide | (exact (rfl : (0 : Nat) = 0)) | (exact Nat.le_of_ble_eq_true rfl) | (exact h.1) | (exact iC_p h.1 (by assumption)) | (simp_all [-Int32.not_lt, -Int32.not_le, chk, stS_get]; done) | (simp_all [-Int32.not_lt, -Int32.not_le, ← Int32.not_le, chk, stS_get]; done) | (simp_all [chk, stS_get]; done)
theorem dX4_die_0 : decode cX4_die 0 = .ok (.aload_n 0, 1) := by decide +kernel
theorem dX4_die_1 : decode cX4_die 1 = .ok (.iload_n 1, 1) := by decide +kernel
theorem dX4_die_2 : decode cX4_die 2 = .ok (.invokevirtual 80, 3) := by decide +kernel
theorem dX4_die_5 : decode cX4_die 5 = .ok (.astore_n 2, 1) := by decide +kernel
theorem dX4_die_6 : decode cX4_die 6 = .ok (.aload_n 2, 1) := by decide +kernel
theorem dX4_die_7 : decode cX4_die 7 = .ok (.getfield 90, 3) := by decide +kernel
theorem dX4_die_10 : decode cX4_die 10 = .ok (.invokestatic 64, 3) := by decide +kernel
theorem dX4_die_13 : decode cX4_die 13 = .ok (.aload_n 2, 1) := by decide +kernel
theorem dX4_die_14 : decode cX4_die 14 = .ok (.iconst 0, 1) := by decide +kernel
theorem dX4_die_15 : decode cX4_die 15 = .ok (.putfield 90, 3) := by decide +kernel
theorem dX4_die_18 : decode cX4_die 18 = .ok (.aload_n 0, 1) := by decide +kernel
theorem dX4_die_19 : decode cX4_die 19 = .ok (.iload_n 1, 1) := by decide +kernel
theorem dX4_die_20 : decode cX4_die 20 = .ok (.invokevirtual 100, 3) := by decide +kernel
theorem dX4_die_23 : decode cX4_die 23 = .ok (.ireturn, 1) := by decide +kernel
def tab_X4_die : List (Nat × Sem) := [(0, op_al 0 1), (1, op_il 1 2), (2, op_callV 6 sp_X4_personAt 2 1 5), (5, op_as 2 6), (6, op_al 2 7), (7, op_gf 4 5 10), (10, op_call sp_X4_checkPossible 1 1 13), (13, op_al 2 14), (14, op_ic 0 15), (15, op_pf 4 5 18), (18, op_al 0 19), (19, op_il 1 20), (20, op_callV 6 sp_X4_endVowsOf 2 0 23), (23, op_iret)]
set_option maxRecDepth 20000 in
theorem tok_X4_die : ∀ q ∈ tab_X4_die, Snd RX4 cX4_die 3 8 2 (some .int) q.1 q.2 := by
  unfold tab_X4_die
  refine tcons (ok_aload_n dX4_die_0 rfl rfl) ?_
  refine tcons (ok_iload_n dX4_die_1 rfl rfl) ?_
  refine tcons (ok_invokevirtual M_X4_personAt (C := RX4) (T := TX4) (nf := 8) rfl w_360 w_362 w_5 w_20 w_363 ⟨rfl, by decide, by decide, by decide +kernel⟩ (by decide) (by decide) dX4_die_2 rfl) ?_
  refine tcons (ok_astore_n dX4_die_5 rfl (by decide) rfl) ?_
  refine tcons (ok_aload_n dX4_die_6 rfl rfl) ?_
  refine tcons (ok_getfield (C := RX2) (T := TX2) (n := 6) rfl in_X2 (by decide) w_287 dX4_die_7 rfl) ?_
  refine tcons (ok_invokestatic M_X4_checkPossible w_240 w_241 w_20 w_242 ⟨by decide, by decide, by decide +kernel⟩ (by decide) (by decide) dX4_die_10 rfl) ?_
  refine tcons (ok_aload_n dX4_die_13 rfl rfl) ?_
  refine tcons (ok_iconst dX4_die_14 rfl rfl) ?_
  refine tcons (ok_putfield (C := RX2) (T := TX2) (n := 6) tyX2 .boolean rfl in_X2 tyX2_ok nmX2 (by decide) rfl w_287 rfl (Or.inr ⟨rfl, zf_4_5⟩) dX4_die_15 rfl) ?_
  refine tcons (ok_aload_n dX4_die_18 rfl rfl) ?_
  refine tcons (ok_iload_n dX4_die_19 rfl rfl) ?_
  refine tcons (ok_invokevirtual M_X4_endVowsOf (C := RX4) (T := TX4) (nf := 8) rfl w_397 w_399 w_6 w_20 w_400 ⟨rfl, by decide, by decide, by decide +kernel⟩ (by decide) (by decide) dX4_die_20 rfl) ?_
  refine tcons (ok_ireturn rfl dX4_die_23) ?_
  exact fun _ h => nomatch h
def sp_X4_die : Spc := fun av s N X => match av with
  | [.inl (.inr (1, 0)), .inl (.inl p)] => CI s ∧ chk (iC s 0 p) 1 s X (chk (¬ s.2.1 12 (cl p) 5 = 0) 3 s X (N (some (aI (evN (stS s 12 (cl p) 5 0) p (s.2.1 1 0 7) (s.1 1)))) (evS (stS s 12 (cl p) 5 0) p (s.2.1 1 0 7) (s.1 1))))
  | _ => False
set_option maxRecDepth 20000 in
set_option maxHeartbeats 2000000 in
theorem M_X4_die : AMet yX4_die cX4_die 3 (some .int) 8 2 sp_X4_die := by
  refine AMet.mk (own := RX4) (by decide) rfl [0, 1, 2] rfl tok_X4_die 200 ?_
  intro av s0 N X h
  unfold sp_X4_die at h
  split at h
  rotate_left
  · exact h.elim
  refine ⟨fun _ => none, ?_, fun pc P hP => nomatch hP⟩
  repeat' (first | apply And.intro | (intro q; exact absurd q (by decide)) | intro _)
  all_goals first | decide | (exact (rfl : (0 : Nat) = 0)) | (exact Nat.le_of_ble_eq_true rfl) | (exact h.1) | (exact iC_p h.1 (by assumption)) | (exact CI_st (by decide) (by decide) h.1) | (exact (h.2.2 (by assumption)).2 (by assumption)) | (simp_all [-Int32.not_lt, -Int32.not_le, chk]; done) | (simp_all [-Int32.not_lt, -Int32.not_le, ← Int32.not_le, chk]; done) | (simp_all [chk]; done)
theorem dX4_pass_0 : decode cX4_pass 0 = .ok (.iload_n 1, 1) := by decide +kernel
theorem dX4_pass_1 : decode cX4_pass 1 = .ok (.iconst 1, 1) := by decide +kernel
theorem dX4_pass_2 : decode cX4_pass 2 = .ok (.if_icmp .lt 14, 3) := by decide +kernel
theorem dX4_pass_5 : decode cX4_pass 5 = .ok (.iload_n 1, 1) := by decide +kernel
theorem dX4_pass_6 : decode cX4_pass 6 = .ok (.sipush 10000, 3) := by decide +kernel
theorem dX4_pass_9 : decode cX4_pass 9 = .ok (.if_icmp .gt 7, 3) := by decide +kernel
theorem dX4_pass_12 : decode cX4_pass 12 = .ok (.iconst 1, 1) := by decide +kernel
theorem dX4_pass_13 : decode cX4_pass 13 = .ok (.goto 4, 3) := by decide +kernel
theorem dX4_pass_16 : decode cX4_pass 16 = .ok (.iconst 0, 1) := by decide +kernel
theorem dX4_pass_17 : decode cX4_pass 17 = .ok (.invokestatic 53, 3) := by decide +kernel
theorem dX4_pass_20 : decode cX4_pass 20 = .ok (.aload_n 0, 1) := by decide +kernel
theorem dX4_pass_21 : decode cX4_pass 21 = .ok (.dup, 1) := by decide +kernel
theorem dX4_pass_22 : decode cX4_pass 22 = .ok (.getfield 41, 3) := by decide +kernel
theorem dX4_pass_25 : decode cX4_pass 25 = .ok (.iload_n 1, 1) := by decide +kernel
theorem dX4_pass_26 : decode cX4_pass 26 = .ok (.iadd, 1) := by decide +kernel
theorem dX4_pass_27 : decode cX4_pass 27 = .ok (.putfield 41, 3) := by decide +kernel
theorem dX4_pass_30 : decode cX4_pass 30 = .ok (.aload_n 0, 1) := by decide +kernel
theorem dX4_pass_31 : decode cX4_pass 31 = .ok (.getfield 41, 3) := by decide +kernel
theorem dX4_pass_34 : decode cX4_pass 34 = .ok (.ireturn, 1) := by decide +kernel
def tab_X4_pass : List (Nat × Sem) := [(0, op_il 1 1), (1, op_ic 1 2), (2, op_cmp (fun x y => x < y) 16 5), (5, op_il 1 6), (6, op_ic 10000 9), (9, op_cmp (fun x y => y < x) 16 12), (12, op_ic 1 13), (13, op_go 17), (16, op_ic 0 17), (17, op_call sp_X4_checkArgument 1 1 20), (20, op_al 0 21), (21, op_dup 22), (22, op_gf 6 7 25), (25, op_il 1 26), (26, op_bin (fun x y => x + y) 27), (27, op_pf 6 7 30), (30, op_al 0 31), (31, op_gf 6 7 34), (34, op_iret)]
set_option maxRecDepth 20000 in
theorem tok_X4_pass : ∀ q ∈ tab_X4_pass, Snd RX4 cX4_pass 2 7 1 (some .int) q.1 q.2 := by
  unfold tab_X4_pass
  refine tcons (ok_iload_n dX4_pass_0 rfl rfl) ?_
  refine tcons (ok_iconst dX4_pass_1 rfl rfl) ?_
  refine tcons (ok_icmp_lt dX4_pass_2 rfl rfl) ?_
  refine tcons (ok_iload_n dX4_pass_5 rfl rfl) ?_
  refine tcons (ok_sipush dX4_pass_6 rfl rfl) ?_
  refine tcons (ok_icmp_gt dX4_pass_9 rfl rfl) ?_
  refine tcons (ok_iconst dX4_pass_12 rfl rfl) ?_
  refine tcons (ok_goto dX4_pass_13 rfl) ?_
  refine tcons (ok_iconst dX4_pass_16 rfl rfl) ?_
  refine tcons (ok_invokestatic M_X4_checkArgument w_217 w_218 w_20 w_219 ⟨by decide, by decide, by decide +kernel⟩ (by decide) (by decide) dX4_pass_17 rfl) ?_
  refine tcons (ok_aload_n dX4_pass_20 rfl rfl) ?_
  refine tcons (ok_dup dX4_pass_21 rfl) ?_
  refine tcons (ok_getfield (C := RX4) (T := TX4) (n := 8) rfl in_X4 (by decide) w_105 dX4_pass_22 rfl) ?_
  refine tcons (ok_iload_n dX4_pass_25 rfl rfl) ?_
  refine tcons (ok_iadd dX4_pass_26 rfl) ?_
  refine tcons (ok_putfield (C := RX4) (T := TX4) (n := 8) tyX4 .int rfl in_X4 tyX4_ok nmX4 (by decide) rfl w_105 rfl (Or.inl rfl) dX4_pass_27 rfl) ?_
  refine tcons (ok_aload_n dX4_pass_30 rfl rfl) ?_
  refine tcons (ok_getfield (C := RX4) (T := TX4) (n := 8) rfl in_X4 (by decide) w_105 dX4_pass_31 rfl) ?_
  refine tcons (ok_ireturn rfl dX4_pass_34) ?_
  exact fun _ h => nomatch h
def sp_X4_pass : Spc := fun av s N X => match av with
  | [.inl (.inr (1, 0)), .inl (.inl d)] => chk (1 ≤ d ∧ d ≤ 10000) 2 s X (N (some (aI (s.2.1 1 0 7 + d))) (stS s 1 0 7 (s.2.1 1 0 7 + d)))
  | _ => False
set_option maxRecDepth 20000 in
set_option maxHeartbeats 2000000 in
theorem M_X4_pass : AMet yX4_pass cX4_pass 2 (some .int) 7 1 sp_X4_pass := by
  refine AMet.mk (own := RX4) (by decide) rfl [0, 1] rfl tok_X4_pass 200 ?_
  intro av s0 N X h
  unfold sp_X4_pass at h
  split at h
  rotate_left
  · exact h.elim
  refine ⟨fun _ => none, ?_, fun pc P hP => nomatch hP⟩
  repeat' (first | apply And.intro | (intro q; exact absurd q (by decide)) | intro _)
  all_goals first | decide | (exact (rfl : (0 : Nat) = 0)) | (exact Nat.le_of_ble_eq_true rfl) | (simp_all [-Int32.not_lt, -Int32.not_le, chk, stS_get]; done) | (simp_all [-Int32.not_lt, -Int32.not_le, ← Int32.not_le, chk, stS_get]; done) | (simp_all [chk, stS_get]; done)
theorem dX4_error_0 : decode cX4_error 0 = .ok (.iload_n 1, 1) := by decide +kernel
theorem dX4_error_1 : decode cX4_error 1 = .ok (.invokestatic 57, 3) := by decide +kernel
theorem dX4_error_4 : decode cX4_error 4 = .ok (.invokestatic 53, 3) := by decide +kernel
theorem dX4_error_7 : decode cX4_error 7 = .ok (.aload_n 0, 1) := by decide +kernel
theorem dX4_error_8 : decode cX4_error 8 = .ok (.getfield 37, 3) := by decide +kernel
theorem dX4_error_11 : decode cX4_error 11 = .ok (.iload_n 1, 1) := by decide +kernel
theorem dX4_error_12 : decode cX4_error 12 = .ok (.aload_n 0, 1) := by decide +kernel
theorem dX4_error_13 : decode cX4_error 13 = .ok (.getfield 37, 3) := by decide +kernel
theorem dX4_error_16 : decode cX4_error 16 = .ok (.iload_n 1, 1) := by decide +kernel
theorem dX4_error_17 : decode cX4_error 17 = .ok (.baload, 1) := by decide +kernel
theorem dX4_error_18 : decode cX4_error 18 = .ok (.ifCond .ne 7, 3) := by decide +kernel
theorem dX4_error_21 : decode cX4_error 21 = .ok (.iconst 1, 1) := by decide +kernel
theorem dX4_error_22 : decode cX4_error 22 = .ok (.goto 4, 3) := by decide +kernel
theorem dX4_error_25 : decode cX4_error 25 = .ok (.iconst 0, 1) := by decide +kernel
theorem dX4_error_26 : decode cX4_error 26 = .ok (.bastore, 1) := by decide +kernel
theorem dX4_error_27 : decode cX4_error 27 = .ok (.aload_n 0, 1) := by decide +kernel
theorem dX4_error_28 : decode cX4_error 28 = .ok (.getfield 37, 3) := by decide +kernel
theorem dX4_error_31 : decode cX4_error 31 = .ok (.iload_n 1, 1) := by decide +kernel
theorem dX4_error_32 : decode cX4_error 32 = .ok (.baload, 1) := by decide +kernel
theorem dX4_error_33 : decode cX4_error 33 = .ok (.ireturn, 1) := by decide +kernel
def tab_X4_error : List (Nat × Sem) := [(0, op_il 1 1), (1, op_call sp_X4_isPlace 1 0 4), (4, op_call sp_X4_checkArgument 1 1 7), (7, op_al 0 8), (8, op_gf 6 6 11), (11, op_il 1 12), (12, op_al 0 13), (13, op_gf 6 6 16), (16, op_il 1 17), (17, op_bald 18), (18, op_if (fun x => ¬ x = 0) 25 21), (21, op_ic 1 22), (22, op_go 26), (25, op_ic 0 26), (26, op_bast 27), (27, op_al 0 28), (28, op_gf 6 6 31), (31, op_il 1 32), (32, op_bald 33), (33, op_zret)]
set_option maxRecDepth 20000 in
theorem tok_X4_error : ∀ q ∈ tab_X4_error, Snd RX4 cX4_error 2 7 1 (some .boolean) q.1 q.2 := by
  unfold tab_X4_error
  refine tcons (ok_iload_n dX4_error_0 rfl rfl) ?_
  refine tcons (ok_invokestatic M_X4_isPlace w_237 w_238 w_20 w_239 ⟨by decide, by decide, by decide +kernel⟩ (by decide) (by decide) dX4_error_1 rfl) ?_
  refine tcons (ok_invokestatic M_X4_checkArgument w_217 w_218 w_20 w_219 ⟨by decide, by decide, by decide +kernel⟩ (by decide) (by decide) dX4_error_4 rfl) ?_
  refine tcons (ok_aload_n dX4_error_7 rfl rfl) ?_
  refine tcons (ok_getfield (C := RX4) (T := TX4) (n := 8) rfl in_X4 (by decide) w_104 dX4_error_8 rfl) ?_
  refine tcons (ok_iload_n dX4_error_11 rfl rfl) ?_
  refine tcons (ok_aload_n dX4_error_12 rfl rfl) ?_
  refine tcons (ok_getfield (C := RX4) (T := TX4) (n := 8) rfl in_X4 (by decide) w_104 dX4_error_13 rfl) ?_
  refine tcons (ok_iload_n dX4_error_16 rfl rfl) ?_
  refine tcons (ok_baload dX4_error_17 rfl) ?_
  refine tcons (ok_if_ne dX4_error_18 rfl rfl) ?_
  refine tcons (ok_iconst dX4_error_21 rfl rfl) ?_
  refine tcons (ok_goto dX4_error_22 rfl) ?_
  refine tcons (ok_iconst dX4_error_25 rfl rfl) ?_
  refine tcons (ok_bastore dX4_error_26 rfl) ?_
  refine tcons (ok_aload_n dX4_error_27 rfl rfl) ?_
  refine tcons (ok_getfield (C := RX4) (T := TX4) (n := 8) rfl in_X4 (by decide) w_104 dX4_error_28 rfl) ?_
  refine tcons (ok_iload_n dX4_error_31 rfl rfl) ?_
  refine tcons (ok_baload dX4_error_32 rfl) ?_
  refine tcons (ok_zreturn rfl (Or.inl rfl) dX4_error_33) ?_
  exact fun _ h => nomatch h
noncomputable def erC (s : Sg) (p : Int32) : Int32 := iteP (s.2.1 11 0 (cl p) = 0) 1 0
def sp_X4_error : Spc := fun av s N X => match av with
  | [.inl (.inr (1, 0)), .inl (.inl p)] => chk (0 ≤ p ∧ p < 8) 2 s X (N (some (aI (erC s p))) (stS s 11 0 (cl p) (erC s p)))
  | _ => False
set_option maxRecDepth 20000 in
set_option maxHeartbeats 2000000 in
theorem M_X4_error : AMet yX4_error cX4_error 2 (some .boolean) 7 1 sp_X4_error := by
  refine AMet.mk (own := RX4) (by decide) rfl [0, 1] rfl tok_X4_error 200 ?_
  intro av s0 N X h
  unfold sp_X4_error at h
  split at h
  rotate_left
  · exact h.elim
  refine ⟨fun _ => none, ?_, fun pc P hP => nomatch hP⟩
  repeat' (first | apply And.intro | (intro q; exact absurd q (by decide)) | intro _)
  all_goals first | decide | (exact (rfl : (0 : Nat) = 0)) | (exact Nat.le_of_ble_eq_true rfl) | (exact Ib_b (n := 8) (by decide) (And.left (by assumption)) (And.right (by assumption))) | (exact Ib_b (n := 8) (by decide) (by assumption) (by assumption)) | (simp_all [-Int32.not_lt, -Int32.not_le, chk, stS_get, erC, iteP]; done) | (simp_all [-Int32.not_lt, -Int32.not_le, ← Int32.not_le, chk, stS_get, erC, iteP]; done) | (simp_all [chk, stS_get, erC, iteP]; done)
theorem dX4_faculty_0 : decode cX4_faculty 0 = .ok (.iload_n 1, 1) := by decide +kernel
theorem dX4_faculty_1 : decode cX4_faculty 1 = .ok (.invokestatic 112, 3) := by decide +kernel
theorem dX4_faculty_4 : decode cX4_faculty 4 = .ok (.ifCond .eq 25, 3) := by decide +kernel
theorem dX4_faculty_7 : decode cX4_faculty 7 = .ok (.iload_n 2, 1) := by decide +kernel
theorem dX4_faculty_8 : decode cX4_faculty 8 = .ok (.invokestatic 57, 3) := by decide +kernel
theorem dX4_faculty_11 : decode cX4_faculty 11 = .ok (.ifCond .eq 18, 3) := by decide +kernel
theorem dX4_faculty_14 : decode cX4_faculty 14 = .ok (.iload_n 3, 1) := by decide +kernel
theorem dX4_faculty_15 : decode cX4_faculty 15 = .ok (.ifCond .lt 14, 3) := by decide +kernel
theorem dX4_faculty_18 : decode cX4_faculty 18 = .ok (.iload_n 3, 1) := by decide +kernel
theorem dX4_faculty_19 : decode cX4_faculty 19 = .ok (.sipush 10000, 3) := by decide +kernel
theorem dX4_faculty_22 : decode cX4_faculty 22 = .ok (.if_icmp .gt 7, 3) := by decide +kernel
theorem dX4_faculty_25 : decode cX4_faculty 25 = .ok (.iconst 1, 1) := by decide +kernel
theorem dX4_faculty_26 : decode cX4_faculty 26 = .ok (.goto 4, 3) := by decide +kernel
theorem dX4_faculty_29 : decode cX4_faculty 29 = .ok (.iconst 0, 1) := by decide +kernel
theorem dX4_faculty_30 : decode cX4_faculty 30 = .ok (.invokestatic 53, 3) := by decide +kernel
theorem dX4_faculty_33 : decode cX4_faculty 33 = .ok (.aload_n 0, 1) := by decide +kernel
theorem dX4_faculty_34 : decode cX4_faculty 34 = .ok (.getfield 34, 3) := by decide +kernel
theorem dX4_faculty_37 : decode cX4_faculty 37 = .ok (.iload_n 1, 1) := by decide +kernel
theorem dX4_faculty_38 : decode cX4_faculty 38 = .ok (.aaload, 1) := by decide +kernel
theorem dX4_faculty_39 : decode cX4_faculty 39 = .ok (.iload_n 2, 1) := by decide +kernel
theorem dX4_faculty_40 : decode cX4_faculty 40 = .ok (.aload_n 0, 1) := by decide +kernel
theorem dX4_faculty_41 : decode cX4_faculty 41 = .ok (.getfield 41, 3) := by decide +kernel
theorem dX4_faculty_44 : decode cX4_faculty 44 = .ok (.iload_n 3, 1) := by decide +kernel
theorem dX4_faculty_45 : decode cX4_faculty 45 = .ok (.iadd, 1) := by decide +kernel
theorem dX4_faculty_46 : decode cX4_faculty 46 = .ok (.iastore, 1) := by decide +kernel
theorem dX4_faculty_47 : decode cX4_faculty 47 = .ok (.return_, 1) := by decide +kernel
def tab_X4_faculty : List (Nat × Sem) := [(0, op_il 1 1), (1, op_call sp_X4_isWitness 1 0 4), (4, op_if (fun x => x = 0) 29 7), (7, op_il 2 8), (8, op_call sp_X4_isPlace 1 0 11), (11, op_if (fun x => x = 0) 29 14), (14, op_il 3 15), (15, op_if (fun x => x < 0) 29 18), (18, op_il 3 19), (19, op_ic 10000 22), (22, op_cmp (fun x y => y < x) 29 25), (25, op_ic 1 26), (26, op_go 30), (29, op_ic 0 30), (30, op_call sp_X4_checkArgument 1 1 33), (33, op_al 0 34), (34, op_gf 6 5 37), (37, op_il 1 38), (38, op_aald 39), (39, op_il 2 40), (40, op_al 0 41), (41, op_gf 6 7 44), (44, op_il 3 45), (45, op_bin (fun x y => x + y) 46), (46, op_iast 47), (47, op_vret)]
set_option maxRecDepth 20000 in
theorem tok_X4_faculty : ∀ q ∈ tab_X4_faculty, Snd RX4 cX4_faculty 4 7 1 none q.1 q.2 := by
  unfold tab_X4_faculty
  refine tcons (ok_iload_n dX4_faculty_0 rfl rfl) ?_
  refine tcons (ok_invokestatic M_X4_isWitness w_446 w_447 w_20 w_448 ⟨by decide, by decide, by decide +kernel⟩ (by decide) (by decide) dX4_faculty_1 rfl) ?_
  refine tcons (ok_if_eq dX4_faculty_4 rfl rfl) ?_
  refine tcons (ok_iload_n dX4_faculty_7 rfl rfl) ?_
  refine tcons (ok_invokestatic M_X4_isPlace w_237 w_238 w_20 w_239 ⟨by decide, by decide, by decide +kernel⟩ (by decide) (by decide) dX4_faculty_8 rfl) ?_
  refine tcons (ok_if_eq dX4_faculty_11 rfl rfl) ?_
  refine tcons (ok_iload_n dX4_faculty_14 rfl rfl) ?_
  refine tcons (ok_if_lt dX4_faculty_15 rfl rfl) ?_
  refine tcons (ok_iload_n dX4_faculty_18 rfl rfl) ?_
  refine tcons (ok_sipush dX4_faculty_19 rfl rfl) ?_
  refine tcons (ok_icmp_gt dX4_faculty_22 rfl rfl) ?_
  refine tcons (ok_iconst dX4_faculty_25 rfl rfl) ?_
  refine tcons (ok_goto dX4_faculty_26 rfl) ?_
  refine tcons (ok_iconst dX4_faculty_29 rfl rfl) ?_
  refine tcons (ok_invokestatic M_X4_checkArgument w_217 w_218 w_20 w_219 ⟨by decide, by decide, by decide +kernel⟩ (by decide) (by decide) dX4_faculty_30 rfl) ?_
  refine tcons (ok_aload_n dX4_faculty_33 rfl rfl) ?_
  refine tcons (ok_getfield (C := RX4) (T := TX4) (n := 8) rfl in_X4 (by decide) w_103 dX4_faculty_34 rfl) ?_
  refine tcons (ok_iload_n dX4_faculty_37 rfl rfl) ?_
  refine tcons (ok_aaload dX4_faculty_38 rfl) ?_
  refine tcons (ok_iload_n dX4_faculty_39 rfl rfl) ?_
  refine tcons (ok_aload_n dX4_faculty_40 rfl rfl) ?_
  refine tcons (ok_getfield (C := RX4) (T := TX4) (n := 8) rfl in_X4 (by decide) w_105 dX4_faculty_41 rfl) ?_
  refine tcons (ok_iload_n dX4_faculty_44 rfl rfl) ?_
  refine tcons (ok_iadd dX4_faculty_45 rfl) ?_
  refine tcons (ok_iastore dX4_faculty_46 rfl) ?_
  refine tcons (ok_vreturn rfl dX4_faculty_47) ?_
  exact fun _ h => nomatch h
def sp_X4_faculty : Spc := fun av s N X => match av with
  | [.inl (.inr (1, 0)), .inl (.inl w), .inl (.inl p), .inl (.inl d)] => chk ((0 ≤ w ∧ w < 6) ∧ (0 ≤ p ∧ p < 8) ∧ 0 ≤ d ∧ d ≤ 10000) 2 s X (N none (stS s 10 (cl w) (cl p) (s.2.1 1 0 7 + d)))
  | _ => False
set_option maxRecDepth 20000 in
set_option maxHeartbeats 2000000 in
theorem M_X4_faculty : AMet yX4_faculty cX4_faculty 4 none 7 1 sp_X4_faculty := by
  refine AMet.mk (own := RX4) (by decide) rfl [0, 1, 2, 3] rfl tok_X4_faculty 200 ?_
  intro av s0 N X h
  unfold sp_X4_faculty at h
  split at h
  rotate_left
  · exact h.elim
  refine ⟨fun _ => none, ?_, fun pc P hP => nomatch hP⟩
  repeat' (first | apply And.intro | (intro q; exact absurd q (by decide)) | intro _)
  all_goals first | decide | (exact (rfl : (0 : Nat) = 0)) | (exact Nat.le_of_ble_eq_true rfl) | (exact Ib_b (n := 8) (by decide) (And.left (by assumption)) (And.right (by assumption))) | (exact Ib_b (n := 6) (by decide) (And.left (by assumption)) (And.right (by assumption))) | (exact Ib_lt (Ib_b (n := 6) (by decide) (And.left (by assumption)) (And.right (by assumption)))) | (simp_all [-Int32.not_lt, -Int32.not_le, chk]; done) | (simp_all [-Int32.not_lt, -Int32.not_le, ← Int32.not_le, chk]; done) | (simp_all [chk]; done)

