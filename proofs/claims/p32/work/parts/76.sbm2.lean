/-! builders of text: methods that may grow -/
theorem w_216 : (.arrayClass .byte : Cond) ∈ TB := TB_mem (List.mem_of_getElem? (i := 216) (by decide +kernel)) rfl
theorem w_767 : (.methodLink "java/lang/AbstractStringBuilder" 104 ⟨"java/lang/AbstractStringBuilder", "newCapacity", "(I)I"⟩ : Cond) ∈ TB := TB_mem (List.mem_of_getElem? (i := 767) (by decide +kernel)) rfl
theorem w_769 : (.instanceMethod ⟨"java/lang/AbstractStringBuilder", "newCapacity", "(I)I"⟩ : Cond) ∈ TB := TB_mem (List.mem_of_getElem? (i := 769) (by decide +kernel)) rfl
theorem w_770 : (.code yJ5_newCapacity_0f7a4 cJ5_newCapacity_0f7a4 6 (some .int) : Cond) ∈ TB := TB_mem (List.mem_of_getElem? (i := 770) (by decide +kernel)) rfl
theorem w_771 : (.methodLink "java/lang/AbstractStringBuilder" 114 ⟨"jdk/internal/util/ArraysSupport", "newLength", "(III)I"⟩ : Cond) ∈ TB := TB_mem (List.mem_of_getElem? (i := 771) (by decide +kernel)) rfl
theorem w_772 : (.constant "java/lang/AbstractStringBuilder" 39 (2147483647) : Cond) ∈ TB := TB_mem (List.mem_of_getElem? (i := 772) (by decide +kernel)) rfl
theorem w_773 : (.methodLink "java/lang/AbstractStringBuilder" 108 ⟨"java/util/Arrays", "copyOf", "([BI)[B"⟩ : Cond) ∈ TB := TB_mem (List.mem_of_getElem? (i := 773) (by decide +kernel)) rfl
theorem w_774 : (.static ⟨"java/util/Arrays", "copyOf", "([BI)[B"⟩ : Cond) ∈ TB := TB_mem (List.mem_of_getElem? (i := 774) (by decide +kernel)) rfl
theorem w_775 : (.code yJ7_copyOf_9075b cJ7_copyOf_9075b 3 (some (.array .byte)) : Cond) ∈ TB := TB_mem (List.mem_of_getElem? (i := 775) (by decide +kernel)) rfl
theorem w_951 : (.sameMethod "java/lang/AbstractStringBuilder" "java/lang/AbstractStringBuilder" "newCapacity" "(I)I" : Cond) ∈ TB := TB_mem (List.mem_of_getElem? (i := 951) (by decide +kernel)) rfl
theorem dJ5_newCapacity_0f7a4_0 : decode cJ5_newCapacity_0f7a4 0 = .ok (.aload_n 0, 1) := by decide +kernel
theorem dJ5_newCapacity_0f7a4_1 : decode cJ5_newCapacity_0f7a4 1 = .ok (.getfield 15, 3) := by decide +kernel
theorem dJ5_newCapacity_0f7a4_4 : decode cJ5_newCapacity_0f7a4 4 = .ok (.arraylength, 1) := by decide +kernel
theorem dJ5_newCapacity_0f7a4_5 : decode cJ5_newCapacity_0f7a4 5 = .ok (.istore_n 2, 1) := by decide +kernel
theorem dJ5_newCapacity_0f7a4_6 : decode cJ5_newCapacity_0f7a4 6 = .ok (.iload_n 1, 1) := by decide +kernel
theorem dJ5_newCapacity_0f7a4_7 : decode cJ5_newCapacity_0f7a4 7 = .ok (.aload_n 0, 1) := by decide +kernel
theorem dJ5_newCapacity_0f7a4_8 : decode cJ5_newCapacity_0f7a4 8 = .ok (.getfield 22, 3) := by decide +kernel
theorem dJ5_newCapacity_0f7a4_11 : decode cJ5_newCapacity_0f7a4 11 = .ok (.ishl, 1) := by decide +kernel
theorem dJ5_newCapacity_0f7a4_12 : decode cJ5_newCapacity_0f7a4 12 = .ok (.istore_n 3, 1) := by decide +kernel
theorem dJ5_newCapacity_0f7a4_13 : decode cJ5_newCapacity_0f7a4 13 = .ok (.iload_n 3, 1) := by decide +kernel
theorem dJ5_newCapacity_0f7a4_14 : decode cJ5_newCapacity_0f7a4 14 = .ok (.iload_n 2, 1) := by decide +kernel
theorem dJ5_newCapacity_0f7a4_15 : decode cJ5_newCapacity_0f7a4 15 = .ok (.isub, 1) := by decide +kernel
theorem dJ5_newCapacity_0f7a4_16 : decode cJ5_newCapacity_0f7a4 16 = .ok (.istore 4, 2) := by decide +kernel
theorem dJ5_newCapacity_0f7a4_18 : decode cJ5_newCapacity_0f7a4 18 = .ok (.iload_n 2, 1) := by decide +kernel
theorem dJ5_newCapacity_0f7a4_19 : decode cJ5_newCapacity_0f7a4 19 = .ok (.iload 4, 2) := by decide +kernel
theorem dJ5_newCapacity_0f7a4_21 : decode cJ5_newCapacity_0f7a4 21 = .ok (.iload_n 2, 1) := by decide +kernel
theorem dJ5_newCapacity_0f7a4_22 : decode cJ5_newCapacity_0f7a4 22 = .ok (.iconst 2, 1) := by decide +kernel
theorem dJ5_newCapacity_0f7a4_23 : decode cJ5_newCapacity_0f7a4 23 = .ok (.aload_n 0, 1) := by decide +kernel
theorem dJ5_newCapacity_0f7a4_24 : decode cJ5_newCapacity_0f7a4 24 = .ok (.getfield 22, 3) := by decide +kernel
theorem dJ5_newCapacity_0f7a4_27 : decode cJ5_newCapacity_0f7a4 27 = .ok (.ishl, 1) := by decide +kernel
theorem dJ5_newCapacity_0f7a4_28 : decode cJ5_newCapacity_0f7a4 28 = .ok (.iadd, 1) := by decide +kernel
theorem dJ5_newCapacity_0f7a4_29 : decode cJ5_newCapacity_0f7a4 29 = .ok (.invokestatic 114, 3) := by decide +kernel
theorem dJ5_newCapacity_0f7a4_32 : decode cJ5_newCapacity_0f7a4 32 = .ok (.istore 5, 2) := by decide +kernel
theorem dJ5_newCapacity_0f7a4_34 : decode cJ5_newCapacity_0f7a4 34 = .ok (.iload 5, 2) := by decide +kernel
theorem dJ5_newCapacity_0f7a4_36 : decode cJ5_newCapacity_0f7a4 36 = .ok (.ldc 39, 2) := by decide +kernel
theorem dJ5_newCapacity_0f7a4_38 : decode cJ5_newCapacity_0f7a4 38 = .ok (.if_icmp .ne 13, 3) := by decide +kernel
theorem dJ5_newCapacity_0f7a4_41 : decode cJ5_newCapacity_0f7a4 41 = .ok (.new 120, 3) := by decide +kernel
theorem dJ5_newCapacity_0f7a4_44 : decode cJ5_newCapacity_0f7a4 44 = .ok (.dup, 1) := by decide +kernel
theorem dJ5_newCapacity_0f7a4_45 : decode cJ5_newCapacity_0f7a4 45 = .ok (.ldc 122, 2) := by decide +kernel
theorem dJ5_newCapacity_0f7a4_47 : decode cJ5_newCapacity_0f7a4 47 = .ok (.invokespecial 124, 3) := by decide +kernel
theorem dJ5_newCapacity_0f7a4_50 : decode cJ5_newCapacity_0f7a4 50 = .ok (.athrow, 1) := by decide +kernel
theorem dJ5_newCapacity_0f7a4_51 : decode cJ5_newCapacity_0f7a4 51 = .ok (.iload 5, 2) := by decide +kernel
theorem dJ5_newCapacity_0f7a4_53 : decode cJ5_newCapacity_0f7a4 53 = .ok (.aload_n 0, 1) := by decide +kernel
theorem dJ5_newCapacity_0f7a4_54 : decode cJ5_newCapacity_0f7a4 54 = .ok (.getfield 22, 3) := by decide +kernel
theorem dJ5_newCapacity_0f7a4_57 : decode cJ5_newCapacity_0f7a4 57 = .ok (.ishr, 1) := by decide +kernel
theorem dJ5_newCapacity_0f7a4_58 : decode cJ5_newCapacity_0f7a4 58 = .ok (.ireturn, 1) := by decide +kernel
def tab_J5_newCapacity_0f7a4 : List (Nat × Sem) := [(0, op_al 0 1), (1, op_gf 0 0 4), (4, op_alenB 5), (5, op_is 2 6), (6, op_il 1 7), (7, op_al 0 8), (8, op_gf 0 1 11), (11, op_bin (fun x y => x <<< (y &&& 31)) 12), (12, op_is 3 13), (13, op_il 3 14), (14, op_il 2 15), (15, op_bin (fun x y => x - y) 16), (16, op_is 4 18), (18, op_il 2 19), (19, op_il 4 21), (21, op_il 2 22), (22, op_ic 2 23), (23, op_al 0 24), (24, op_gf 0 1 27), (27, op_bin (fun x y => x <<< (y &&& 31)) 28), (28, op_bin (fun x y => x + y) 29), (29, op_call sp_J8_newLength_cabcc 3 0 32), (32, op_is 5 34), (34, op_il 5 36), (36, op_ic 2147483647 38), (38, op_cmp (fun x y => ¬ x = y) 51 41), (51, op_il 5 53), (53, op_al 0 54), (54, op_gf 0 1 57), (57, op_bin (fun x y => x >>> (y &&& 31)) 58), (58, op_iret)]
set_option maxRecDepth 20000 in
theorem tok_J5_newCapacity_0f7a4 : ∀ q ∈ tab_J5_newCapacity_0f7a4, Snd RJ5 cJ5_newCapacity_0f7a4 6 2 0 (some .int) q.1 q.2 := by
  unfold tab_J5_newCapacity_0f7a4
  refine tcons (ok_aload_n dJ5_newCapacity_0f7a4_0 rfl rfl) ?_
  refine tcons (ok_getfield (C := RJ4) (T := TJ4) (n := 4) rfl in_J4 (by decide) w_739 dJ5_newCapacity_0f7a4_1 rfl) ?_
  refine tcons (ok_alenB dJ5_newCapacity_0f7a4_4 rfl) ?_
  refine tcons (ok_istore_n dJ5_newCapacity_0f7a4_5 rfl (by decide) rfl) ?_
  refine tcons (ok_iload_n dJ5_newCapacity_0f7a4_6 rfl rfl) ?_
  refine tcons (ok_aload_n dJ5_newCapacity_0f7a4_7 rfl rfl) ?_
  refine tcons (ok_getfield (C := RJ4) (T := TJ4) (n := 4) rfl in_J4 (by decide) w_740 dJ5_newCapacity_0f7a4_8 rfl) ?_
  refine tcons (ok_ishl dJ5_newCapacity_0f7a4_11 rfl) ?_
  refine tcons (ok_istore_n dJ5_newCapacity_0f7a4_12 rfl (by decide) rfl) ?_
  refine tcons (ok_iload_n dJ5_newCapacity_0f7a4_13 rfl rfl) ?_
  refine tcons (ok_iload_n dJ5_newCapacity_0f7a4_14 rfl rfl) ?_
  refine tcons (ok_isub dJ5_newCapacity_0f7a4_15 rfl) ?_
  refine tcons (ok_istore dJ5_newCapacity_0f7a4_16 (by decide) rfl) ?_
  refine tcons (ok_iload_n dJ5_newCapacity_0f7a4_18 rfl rfl) ?_
  refine tcons (ok_iload dJ5_newCapacity_0f7a4_19 rfl) ?_
  refine tcons (ok_iload_n dJ5_newCapacity_0f7a4_21 rfl rfl) ?_
  refine tcons (ok_iconst dJ5_newCapacity_0f7a4_22 rfl rfl) ?_
  refine tcons (ok_aload_n dJ5_newCapacity_0f7a4_23 rfl rfl) ?_
  refine tcons (ok_getfield (C := RJ4) (T := TJ4) (n := 4) rfl in_J4 (by decide) w_740 dJ5_newCapacity_0f7a4_24 rfl) ?_
  refine tcons (ok_ishl dJ5_newCapacity_0f7a4_27 rfl) ?_
  refine tcons (ok_iadd dJ5_newCapacity_0f7a4_28 rfl) ?_
  refine tcons (ok_invokestatic M_J8_newLength_cabcc w_771 w_318 w_34 w_319 ⟨by decide, by decide, by decide +kernel⟩ (by decide) (by decide) dJ5_newCapacity_0f7a4_29 rfl) ?_
  refine tcons (ok_istore dJ5_newCapacity_0f7a4_32 (by decide) rfl) ?_
  refine tcons (ok_iload dJ5_newCapacity_0f7a4_34 rfl) ?_
  refine tcons (ok_ldc w_772 dJ5_newCapacity_0f7a4_36 rfl) ?_
  refine tcons (ok_icmp_ne dJ5_newCapacity_0f7a4_38 rfl rfl) ?_
  refine tcons (ok_iload dJ5_newCapacity_0f7a4_51 rfl) ?_
  refine tcons (ok_aload_n dJ5_newCapacity_0f7a4_53 rfl rfl) ?_
  refine tcons (ok_getfield (C := RJ4) (T := TJ4) (n := 4) rfl in_J4 (by decide) w_740 dJ5_newCapacity_0f7a4_54 rfl) ?_
  refine tcons (ok_ishr dJ5_newCapacity_0f7a4_57 rfl) ?_
  refine tcons (ok_ireturn rfl dJ5_newCapacity_0f7a4_58) ?_
  exact fun _ h => nomatch h
def sp_J5_newCapacity_0f7a4 : Spc := fun av s N _ => match av with
  | [.inl (.inr (18, 0)), .inl (.inl n)] => ∃ m, Lv s 18 0 ∧ Lv s 19 0 ∧ s.1 13 = 16 ∧ s.2.1 18 0 1 = 0 ∧ n = nI m ∧ 16 < m ∧ m ≤ 34 ∧ N (some (aI 34)) s
  | _ => False
theorem ncap : ∀ m, m < 35 → 16 < m → nI 16 + (if nI m <<< ((0 : Int32) &&& 31) - nI 16 < nI 16 + (2 : Int32) <<< ((0 : Int32) &&& 31) then nI 16 + (2 : Int32) <<< ((0 : Int32) &&& 31) else nI m <<< ((0 : Int32) &&& 31) - nI 16) = 34 := by decide
set_option maxRecDepth 20000 in
set_option maxHeartbeats 2000000 in
theorem M_J5_newCapacity_0f7a4 : AMet yJ5_newCapacity_0f7a4 cJ5_newCapacity_0f7a4 6 (some .int) 2 0 sp_J5_newCapacity_0f7a4 := by
  refine AMet.mc (own := RJ5) (by decide) rfl [0, 1, 2, 3, 4, 5] rfl tok_J5_newCapacity_0f7a4 200 ?_
  intro av s0 N X h
  unfold sp_J5_newCapacity_0f7a4 at h
  split at h
  rotate_left
  · exact h.elim
  rename_i n
  obtain ⟨m, hL, hL19, h13, hz, rfl, hm, hm34, h⟩ := h
  have hn := ncap m (by omega) hm
  refine ⟨[], ?_, an⟩
  refine ⟨hL, hL19, hL, hL, by decide, by decide, ?_⟩
  dsimp only
  rw [h13, hz]
  show (¬ (nI 16 + (if nI m <<< ((0 : Int32) &&& 31) - nI 16 < nI 16 + (2 : Int32) <<< ((0 : Int32) &&& 31) then nI 16 + (2 : Int32) <<< ((0 : Int32) &&& 31) else nI m <<< ((0 : Int32) &&& 31) - nI 16)) ≤ 0) ∧ (¬ 2147483639 < (nI 16 + (if nI m <<< ((0 : Int32) &&& 31) - nI 16 < nI 16 + (2 : Int32) <<< ((0 : Int32) &&& 31) then nI 16 + (2 : Int32) <<< ((0 : Int32) &&& 31) else nI m <<< ((0 : Int32) &&& 31) - nI 16))) ∧ _
  rw [hn]
  refine ⟨by decide, by decide, fun _ => ⟨hL, by decide, ?_⟩, fun q => absurd (show ¬ (34 : Int32) = 2147483647 by decide) q⟩
  dsimp only
  rw [hz]
  exact h
theorem dJ7_copyOf_9075b_0 : decode cJ7_copyOf_9075b 0 = .ok (.iload_n 1, 1) := by decide +kernel
theorem dJ7_copyOf_9075b_1 : decode cJ7_copyOf_9075b 1 = .ok (.aload_n 0, 1) := by decide +kernel
theorem dJ7_copyOf_9075b_2 : decode cJ7_copyOf_9075b 2 = .ok (.arraylength, 1) := by decide +kernel
theorem dJ7_copyOf_9075b_3 : decode cJ7_copyOf_9075b 3 = .ok (.if_icmp .ne 11, 3) := by decide +kernel
theorem dJ7_copyOf_9075b_6 : decode cJ7_copyOf_9075b 6 = .ok (.aload_n 0, 1) := by decide +kernel
theorem dJ7_copyOf_9075b_7 : decode cJ7_copyOf_9075b 7 = .ok (.invokevirtual 310, 3) := by decide +kernel
theorem dJ7_copyOf_9075b_10 : decode cJ7_copyOf_9075b 10 = .ok (.checkcast 311, 3) := by decide +kernel
theorem dJ7_copyOf_9075b_13 : decode cJ7_copyOf_9075b 13 = .ok (.areturn, 1) := by decide +kernel
theorem dJ7_copyOf_9075b_14 : decode cJ7_copyOf_9075b 14 = .ok (.iload_n 1, 1) := by decide +kernel
theorem dJ7_copyOf_9075b_15 : decode cJ7_copyOf_9075b 15 = .ok (.newarray .byte, 2) := by decide +kernel
theorem dJ7_copyOf_9075b_17 : decode cJ7_copyOf_9075b 17 = .ok (.astore_n 2, 1) := by decide +kernel
theorem dJ7_copyOf_9075b_18 : decode cJ7_copyOf_9075b 18 = .ok (.aload_n 0, 1) := by decide +kernel
theorem dJ7_copyOf_9075b_19 : decode cJ7_copyOf_9075b 19 = .ok (.iconst 0, 1) := by decide +kernel
theorem dJ7_copyOf_9075b_20 : decode cJ7_copyOf_9075b 20 = .ok (.aload_n 2, 1) := by decide +kernel
theorem dJ7_copyOf_9075b_21 : decode cJ7_copyOf_9075b 21 = .ok (.iconst 0, 1) := by decide +kernel
theorem dJ7_copyOf_9075b_22 : decode cJ7_copyOf_9075b 22 = .ok (.aload_n 0, 1) := by decide +kernel
theorem dJ7_copyOf_9075b_23 : decode cJ7_copyOf_9075b 23 = .ok (.arraylength, 1) := by decide +kernel
theorem dJ7_copyOf_9075b_24 : decode cJ7_copyOf_9075b 24 = .ok (.iload_n 1, 1) := by decide +kernel
theorem dJ7_copyOf_9075b_25 : decode cJ7_copyOf_9075b 25 = .ok (.invokestatic 304, 3) := by decide +kernel
theorem dJ7_copyOf_9075b_28 : decode cJ7_copyOf_9075b 28 = .ok (.invokestatic 150, 3) := by decide +kernel
theorem dJ7_copyOf_9075b_31 : decode cJ7_copyOf_9075b 31 = .ok (.aload_n 2, 1) := by decide +kernel
theorem dJ7_copyOf_9075b_32 : decode cJ7_copyOf_9075b 32 = .ok (.areturn, 1) := by decide +kernel
def tab_J7_copyOf_9075b : List (Nat × Sem) := [(0, op_il 1 1), (1, op_al 0 2), (2, op_alenB 3), (3, op_cmp (fun x y => ¬ x = y) 14 6), (14, op_il 1 15), (15, op_new58 17), (17, op_as 2 18), (18, op_al 0 19), (19, op_ic 0 20), (20, op_al 2 21), (21, op_ic 0 22), (22, op_al 0 23), (23, op_alenB 24), (24, op_il 1 25), (25, op_mm (fun x y => if y < x then y else x) 28), (28, op_copy58 31), (31, op_al 2 32), (32, op_aret)]
set_option maxRecDepth 20000 in
theorem tok_J7_copyOf_9075b : ∀ q ∈ tab_J7_copyOf_9075b, GSnd RJ7 cJ7_copyOf_9075b 3 1 2 (some (.array .byte)) q.1 q.2 := by
  unfold tab_J7_copyOf_9075b
  refine gcons (snd_g (ok_iload_n dJ7_copyOf_9075b_0 rfl rfl)) ?_
  refine gcons (snd_g (ok_aload_n dJ7_copyOf_9075b_1 rfl rfl)) ?_
  refine gcons (snd_g (ok_alenB dJ7_copyOf_9075b_2 rfl)) ?_
  refine gcons (snd_g (ok_icmp_ne dJ7_copyOf_9075b_3 rfl rfl)) ?_
  refine gcons (snd_g (ok_iload_n dJ7_copyOf_9075b_14 rfl rfl)) ?_
  refine gcons (ok_new58 w_216 dJ7_copyOf_9075b_15 rfl) ?_
  refine gcons (snd_g (ok_astore_n dJ7_copyOf_9075b_17 rfl (by decide) rfl)) ?_
  refine gcons (snd_g (ok_aload_n dJ7_copyOf_9075b_18 rfl rfl)) ?_
  refine gcons (snd_g (ok_iconst dJ7_copyOf_9075b_19 rfl rfl)) ?_
  refine gcons (snd_g (ok_aload_n dJ7_copyOf_9075b_20 rfl rfl)) ?_
  refine gcons (snd_g (ok_iconst dJ7_copyOf_9075b_21 rfl rfl)) ?_
  refine gcons (snd_g (ok_aload_n dJ7_copyOf_9075b_22 rfl rfl)) ?_
  refine gcons (snd_g (ok_alenB dJ7_copyOf_9075b_23 rfl)) ?_
  refine gcons (snd_g (ok_iload_n dJ7_copyOf_9075b_24 rfl rfl)) ?_
  refine gcons (snd_g (ok_mmin w_350 w_268 w_32 w_269 (by decide) dJ7_copyOf_9075b_25 rfl)) ?_
  refine gcons (snd_g (ok_copy58 w_351 w_353 w_352 w_35 (by decide) dJ7_copyOf_9075b_28 rfl)) ?_
  refine gcons (snd_g (ok_aload_n dJ7_copyOf_9075b_31 rfl rfl)) ?_
  refine gcons (snd_g (ok_areturnA rfl dJ7_copyOf_9075b_32)) ?_
  exact fun _ h => nomatch h
def sp_J7_copyOf_9075b : Spc := fun av s N _ => match av with
  | [.inl (.inr (19, 0)), .inl (.inl n)] => ∃ m, n = nI m ∧ s.1 13 < m ∧ m ≤ 48 ∧ 0 < s.1 13 ∧ Lv s 19 0 ∧ s.1 17 = 0 ∧ s.1 14 = 0 ∧ (∀ j, fits .byte (.int (s.2.1 19 0 j)) = true) ∧ N (some (aR 58 0)) (cp58 (mk58 s m) (s.1 13))
  | _ => False
set_option maxRecDepth 20000 in
set_option maxHeartbeats 2000000 in
theorem M_J7_copyOf_9075b : GMet yJ7_copyOf_9075b cJ7_copyOf_9075b 3 (some (.array .byte)) 1 2 sp_J7_copyOf_9075b := by
  refine GMet.mk (own := RJ7) (by decide) rfl [0, 1, 2] rfl tok_J7_copyOf_9075b 200 ?_
  intro av s0 N X h
  unfold sp_J7_copyOf_9075b at h
  split at h
  rotate_left
  · exact h.elim
  rename_i n
  obtain ⟨m, rfl, hm, hm48, h0, hL, h17, h14, hfit, h⟩ := h
  have c0 : (nI m).toNatClampNeg = m := nI_clamp (by omega)
  have c1 : (nI (s0.1 13)).toNatClampNeg = s0.1 13 := nI_clamp (by omega)
  have hmin : (if nI m < nI (s0.1 13) then nI m else nI (s0.1 13)) = nI (s0.1 13) := if_neg (nI_nlt (by omega) (by omega))
  have e13 : (mk58 s0 m).1 13 = s0.1 13 := mk58_1 (by decide)
  have e17 : (mk58 s0 m).1 17 = m := stC_eq
  have hL' : Lv (mk58 s0 m) 19 0 := by
    show 0 < (mk58 s0 m).1 12
    rw [mk58_1 (by decide)]
    exact hL
  refine ⟨hL, fun _ => ?_, fun q => absurd (fun hc => by have := (nI_eq (by omega) (by omega)).mp hc; omega) q⟩
  refine ⟨h17, h14, nI_pos (by omega), by rw [c0]; omega, by rw [c0]; omega, by decide, rfl, rfl, ?_⟩
  rw [c0]
  refine ⟨hL', by decide, Nat.le_of_ble_eq_true rfl, ?_⟩
  dsimp only
  rw [e13, hmin]
  refine ⟨rfl, rfl, hL', ⟨rfl, by rw [e17]; omega⟩, nI_pos (by omega), by rw [c1, e13]; exact Nat.le_refl _, by rw [c1, e17]; omega, fun j => by rw [mk58_2 (by decide)]; exact hfit j, by decide, by decide, ?_⟩
  rw [c1]
  exact h
theorem dJ5_ensureCapacityInternal_d00df_0 : decode cJ5_ensureCapacityInternal_d00df 0 = .ok (.aload_n 0, 1) := by decide +kernel
theorem dJ5_ensureCapacityInternal_d00df_1 : decode cJ5_ensureCapacityInternal_d00df 1 = .ok (.getfield 15, 3) := by decide +kernel
theorem dJ5_ensureCapacityInternal_d00df_4 : decode cJ5_ensureCapacityInternal_d00df 4 = .ok (.arraylength, 1) := by decide +kernel
theorem dJ5_ensureCapacityInternal_d00df_5 : decode cJ5_ensureCapacityInternal_d00df 5 = .ok (.aload_n 0, 1) := by decide +kernel
theorem dJ5_ensureCapacityInternal_d00df_6 : decode cJ5_ensureCapacityInternal_d00df 6 = .ok (.getfield 22, 3) := by decide +kernel
theorem dJ5_ensureCapacityInternal_d00df_9 : decode cJ5_ensureCapacityInternal_d00df 9 = .ok (.ishr, 1) := by decide +kernel
theorem dJ5_ensureCapacityInternal_d00df_10 : decode cJ5_ensureCapacityInternal_d00df 10 = .ok (.istore_n 2, 1) := by decide +kernel
theorem dJ5_ensureCapacityInternal_d00df_11 : decode cJ5_ensureCapacityInternal_d00df 11 = .ok (.iload_n 1, 1) := by decide +kernel
theorem dJ5_ensureCapacityInternal_d00df_12 : decode cJ5_ensureCapacityInternal_d00df 12 = .ok (.iload_n 2, 1) := by decide +kernel
theorem dJ5_ensureCapacityInternal_d00df_13 : decode cJ5_ensureCapacityInternal_d00df 13 = .ok (.isub, 1) := by decide +kernel
theorem dJ5_ensureCapacityInternal_d00df_14 : decode cJ5_ensureCapacityInternal_d00df 14 = .ok (.ifCond .le 24, 3) := by decide +kernel
theorem dJ5_ensureCapacityInternal_d00df_17 : decode cJ5_ensureCapacityInternal_d00df 17 = .ok (.aload_n 0, 1) := by decide +kernel
theorem dJ5_ensureCapacityInternal_d00df_18 : decode cJ5_ensureCapacityInternal_d00df 18 = .ok (.aload_n 0, 1) := by decide +kernel
theorem dJ5_ensureCapacityInternal_d00df_19 : decode cJ5_ensureCapacityInternal_d00df 19 = .ok (.getfield 15, 3) := by decide +kernel
theorem dJ5_ensureCapacityInternal_d00df_22 : decode cJ5_ensureCapacityInternal_d00df 22 = .ok (.aload_n 0, 1) := by decide +kernel
theorem dJ5_ensureCapacityInternal_d00df_23 : decode cJ5_ensureCapacityInternal_d00df 23 = .ok (.iload_n 1, 1) := by decide +kernel
theorem dJ5_ensureCapacityInternal_d00df_24 : decode cJ5_ensureCapacityInternal_d00df 24 = .ok (.invokevirtual 104, 3) := by decide +kernel
theorem dJ5_ensureCapacityInternal_d00df_27 : decode cJ5_ensureCapacityInternal_d00df 27 = .ok (.aload_n 0, 1) := by decide +kernel
theorem dJ5_ensureCapacityInternal_d00df_28 : decode cJ5_ensureCapacityInternal_d00df 28 = .ok (.getfield 22, 3) := by decide +kernel
theorem dJ5_ensureCapacityInternal_d00df_31 : decode cJ5_ensureCapacityInternal_d00df 31 = .ok (.ishl, 1) := by decide +kernel
theorem dJ5_ensureCapacityInternal_d00df_32 : decode cJ5_ensureCapacityInternal_d00df 32 = .ok (.invokestatic 108, 3) := by decide +kernel
theorem dJ5_ensureCapacityInternal_d00df_35 : decode cJ5_ensureCapacityInternal_d00df 35 = .ok (.putfield 15, 3) := by decide +kernel
theorem dJ5_ensureCapacityInternal_d00df_38 : decode cJ5_ensureCapacityInternal_d00df 38 = .ok (.return_, 1) := by decide +kernel
def tab_J5_ensureCapacityInternal_d00df : List (Nat × Sem) := [(0, op_al 0 1), (1, op_gf 0 0 4), (4, op_alenB 5), (5, op_al 0 6), (6, op_gf 0 1 9), (9, op_bin (fun x y => x >>> (y &&& 31)) 10), (10, op_is 2 11), (11, op_il 1 12), (12, op_il 2 13), (13, op_bin (fun x y => x - y) 14), (14, op_if (fun x => x ≤ 0) 38 17), (17, op_al 0 18), (18, op_al 0 19), (19, op_gf 0 0 22), (22, op_al 0 23), (23, op_il 1 24), (24, op_callU sp_J5_newCapacity_0f7a4 2 0 27), (27, op_al 0 28), (28, op_gf 0 1 31), (31, op_bin (fun x y => x <<< (y &&& 31)) 32), (32, op_callG sp_J7_copyOf_9075b 2 2 35), (35, op_pval 38), (38, op_vret)]
set_option maxRecDepth 20000 in
theorem tok_J5_ensureCapacityInternal_d00df : ∀ q ∈ tab_J5_ensureCapacityInternal_d00df, GSnd RJ5 cJ5_ensureCapacityInternal_d00df 3 3 2 none q.1 q.2 := by
  unfold tab_J5_ensureCapacityInternal_d00df
  refine gcons (snd_g (ok_aload_n dJ5_ensureCapacityInternal_d00df_0 rfl rfl)) ?_
  refine gcons (snd_g (ok_getfield (C := RJ4) (T := TJ4) (n := 4) rfl in_J4 (by decide) w_739 dJ5_ensureCapacityInternal_d00df_1 rfl)) ?_
  refine gcons (snd_g (ok_alenB dJ5_ensureCapacityInternal_d00df_4 rfl)) ?_
  refine gcons (snd_g (ok_aload_n dJ5_ensureCapacityInternal_d00df_5 rfl rfl)) ?_
  refine gcons (snd_g (ok_getfield (C := RJ4) (T := TJ4) (n := 4) rfl in_J4 (by decide) w_740 dJ5_ensureCapacityInternal_d00df_6 rfl)) ?_
  refine gcons (snd_g (ok_ishr dJ5_ensureCapacityInternal_d00df_9 rfl)) ?_
  refine gcons (snd_g (ok_istore_n dJ5_ensureCapacityInternal_d00df_10 rfl (by decide) rfl)) ?_
  refine gcons (snd_g (ok_iload_n dJ5_ensureCapacityInternal_d00df_11 rfl rfl)) ?_
  refine gcons (snd_g (ok_iload_n dJ5_ensureCapacityInternal_d00df_12 rfl rfl)) ?_
  refine gcons (snd_g (ok_isub dJ5_ensureCapacityInternal_d00df_13 rfl)) ?_
  refine gcons (snd_g (ok_if_le dJ5_ensureCapacityInternal_d00df_14 rfl rfl)) ?_
  refine gcons (snd_g (ok_aload_n dJ5_ensureCapacityInternal_d00df_17 rfl rfl)) ?_
  refine gcons (snd_g (ok_aload_n dJ5_ensureCapacityInternal_d00df_18 rfl rfl)) ?_
  refine gcons (snd_g (ok_getfield (C := RJ4) (T := TJ4) (n := 4) rfl in_J4 (by decide) w_739 dJ5_ensureCapacityInternal_d00df_19 rfl)) ?_
  refine gcons (snd_g (ok_aload_n dJ5_ensureCapacityInternal_d00df_22 rfl rfl)) ?_
  refine gcons (snd_g (ok_iload_n dJ5_ensureCapacityInternal_d00df_23 rfl rfl)) ?_
  refine gcons (snd_g (ok_callU M_J5_newCapacity_0f7a4 w_767 w_951 (fun s a h => h _ xs_J5_newCapacity_0f7a4) w_769 w_40 w_770 rfl (by decide +kernel) (by decide) (by decide) dJ5_ensureCapacityInternal_d00df_24 rfl)) ?_
  refine gcons (snd_g (ok_aload_n dJ5_ensureCapacityInternal_d00df_27 rfl rfl)) ?_
  refine gcons (snd_g (ok_getfield (C := RJ4) (T := TJ4) (n := 4) rfl in_J4 (by decide) w_740 dJ5_ensureCapacityInternal_d00df_28 rfl)) ?_
  refine gcons (snd_g (ok_ishl dJ5_ensureCapacityInternal_d00df_31 rfl)) ?_
  refine gcons (ok_invokestaticG M_J7_copyOf_9075b w_773 w_774 w_25 w_775 ⟨by decide, by decide, by decide +kernel⟩ (by decide) (by decide) dJ5_ensureCapacityInternal_d00df_32 rfl) ?_
  refine gcons (ok_pval in_J4 w_739 dJ5_ensureCapacityInternal_d00df_35 rfl) ?_
  refine gcons (snd_g (ok_vreturn rfl dJ5_ensureCapacityInternal_d00df_38)) ?_
  exact fun _ h => nomatch h
def sp_J5_ensureCapacityInternal_d00df : Spc := fun av s N _ => match av with
  | [.inl (.inr (18, 0)), .inl (.inl n)] => ∃ c m, SBS s c ∧ n = nI m ∧ c ≤ m ∧ m ≤ 34 ∧ ∀ s', SBS s' c → m ≤ s'.1 13 → eqB s s' c → N none s'
  | _ => False
set_option maxRecDepth 20000 in
set_option maxHeartbeats 2000000 in
theorem M_J5_ensureCapacityInternal_d00df : GMet yJ5_ensureCapacityInternal_d00df cJ5_ensureCapacityInternal_d00df 3 none 3 2 sp_J5_ensureCapacityInternal_d00df := by
  refine GMet.mk (own := RJ5) (by decide) rfl [0, 1, 2] rfl tok_J5_ensureCapacityInternal_d00df 200 ?_
  intro av s0 N X h
  unfold sp_J5_ensureCapacityInternal_d00df at h
  split at h
  rotate_left
  · exact h.elim
  rename_i n
  obtain ⟨c, m, hS, rfl, hcm, hm34, h⟩ := h
  have hS' := of_eq_true hS
  have hL := SBS_L hS
  have hL19 := SBS_L19 hS
  have h13 : s0.1 13 ≤ 34 := by rcases hS'.2.2.2.1 with q | q <;> omega
  have hz : s0.2.1 18 0 1 = 0 := hS'.2.2.2.2.2.1
  have hsh : nI (s0.1 13) >>> ((0 : Int32) &&& 31) = nI (s0.1 13) := sb_shr0 _
  refine ⟨hL, hL19, hL, ?_⟩
  show (nI m - nI (s0.1 13) >>> (s0.2.1 18 0 1 &&& 31) ≤ 0 → _) ∧ (¬ nI m - nI (s0.1 13) >>> (s0.2.1 18 0 1 &&& 31) ≤ 0 → _)
  rw [hz, hsh]
  refine ⟨fun q => ⟨by decide, h s0 hS ?_ eqB_rf⟩, fun q => ?_⟩
  · by_cases hle : m ≤ s0.1 13
    · exact hle
    · rw [pk_sub (by omega)] at q
      exact absurd q (nI_nle (by omega) (by omega))
  · have hgt : s0.1 13 < m := by
      apply Nat.lt_of_not_le
      intro hle
      apply q
      have : (nI m - nI (s0.1 13)).toInt = (m : Int) - (s0.1 13 : Int) := pk_sub_toInt (by omega) (by omega)
      rw [Int32.le_iff_toInt_le, this]
      show (m : Int) - (s0.1 13 : Int) ≤ 0
      omega
    have h16 : s0.1 13 = 16 := by rcases hS'.2.2.2.1 with q | q <;> omega
    refine ⟨hL, hL, by decide, Nat.le_of_ble_eq_true rfl, m, hL, hL19, h16, hz, rfl, by omega, hm34, hL, ?_⟩
    dsimp only
    rw [hz]
    refine ⟨by decide, by decide, ⟨hL, trivial⟩, hL, ?_⟩
    refine ⟨34, by decide, by omega, by decide, by omega, hL19, hS'.2.1, hS'.2.2.1, hS'.2.2.2.2.2.2.2, ?_⟩
    rw [h16]
    have e12 : (cp58 (mk58 s0 34) 16).1 12 = 1 := (mk58_1 (n := 34) (by decide)).trans hS'.1
    have hL' : Lv (cp58 (mk58 s0 34) 16) 18 0 := by show 0 < (cp58 (mk58 s0 34) 16).1 12; rw [e12]; decide
    have e17 : (cp58 (mk58 s0 34) 16).1 17 = 34 := by show (mk58 s0 34).1 17 = 34; exact stC_eq
    refine ⟨hL', e12, by rw [e17]; decide, (mk58_1 (n := 34) (by decide)).trans hS'.2.2.1, trivial, ?_⟩
    have hb : ∀ j, (setB58 (cp58 (mk58 s0 34) 16)).2.1 19 0 j = if j < 16 then s0.2.1 19 0 j else 0 := by
      intro j
      rw [setB58_19]
      have hh : (cp58 (mk58 s0 34) 16).2.1 58 0 j = va_cpy ((mk58 s0 34).2.1 19 0) ((mk58 s0 34).2.1 58 0) 0 0 16 j := by
        show (if (58 : Nat) = 58 ∧ (0 : Nat) = 0 then va_cpy ((mk58 s0 34).2.1 19 0) ((mk58 s0 34).2.1 58 0) 0 0 16 j else (mk58 s0 34).2.1 58 0 j) = _
        exact if_pos ⟨rfl, rfl⟩
      rw [hh]
      unfold va_cpy
      by_cases hj : j < 16
      · rw [if_pos (by omega), if_pos hj, Nat.sub_zero, Nat.zero_add]
        exact mk58_2 (n := 34) (by decide)
      · rw [if_neg (by omega), if_neg hj]
        show (if (58 : Nat) = 58 ∧ (0 : Nat) = 0 then (0 : Int32) else s0.2.1 58 0 j) = 0
        exact if_pos ⟨rfl, rfl⟩
    have ho : ∀ t i j, ¬ t = 19 → ¬ t = 58 → (setB58 (cp58 (mk58 s0 34) 16)).2.1 t i j = s0.2.1 t i j := fun t i j n19 n58 => by
      rw [setB58_2 (fun hc => n19 hc.1), cp58_2 (fun hc => n58 hc.1), mk58_2 (fun hc => n58 hc.1)]
    have hcn : ∀ k, ¬ k = 13 → ¬ k = 17 → (setB58 (cp58 (mk58 s0 34) 16)).1 k = s0.1 k := fun k n13 n17 => by
      rw [setB58_1 n13 n17]
      exact mk58_1 (n := 34) n17
    have h13' : (setB58 (cp58 (mk58 s0 34) 16)).1 13 = 34 := setB58_13
    refine ⟨hL', by decide, ?_⟩
    refine h _ (eq_true ⟨(hcn 12 (by decide) (by decide)).trans hS'.1, setB58_17, (hcn 14 (by decide) (by decide)).trans hS'.2.2.1, Or.inr h13', by rw [h13']; omega, (ho 18 0 1 (by decide) (by decide)).trans hz, (ho 18 0 3 (by decide) (by decide)).trans hS'.2.2.2.2.2.2.1, fun j => ?_⟩) (by rw [h13']; exact hm34) (eq_true ⟨rfl, hcn, fun t i j n18 n19 n58 => ho t i j n19 n58, fun j hj => ?_⟩)
    · rw [hb]
      by_cases hj : j < 16
      · rw [if_pos hj]; exact hS'.2.2.2.2.2.2.2 j
      · rw [if_neg hj]; rfl
    · rw [hb, if_pos]
      have := hS'.2.2.2.2.1
      omega

