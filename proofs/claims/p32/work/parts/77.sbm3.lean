/-! numbers into a builder -/
theorem w_741 : (.fieldLink "java/lang/AbstractStringBuilder" 79 "java/lang/AbstractStringBuilder" "count" "I" : Cond) ∈ TB := TB_mem (List.mem_of_getElem? (i := 741) (by decide +kernel)) rfl
theorem w_750 : (.superclass "java/lang/StringBuilder" "java/lang/AbstractStringBuilder" : Cond) ∈ TB := TB_mem (List.mem_of_getElem? (i := 750) (by decide +kernel)) rfl
theorem w_800 : (.fieldLink "java/lang/String" 1053 "jdk/internal/util/Preconditions" "SIOOBE_FORMATTER" "Ljava/util/function/BiFunction;" : Cond) ∈ TB := TB_mem (List.mem_of_getElem? (i := 800) (by decide +kernel)) rfl
theorem w_871 : (.fieldLink "java/lang/Integer" 83 "java/lang/Integer" "DigitOnes" "[B" : Cond) ∈ TB := TB_mem (List.mem_of_getElem? (i := 871) (by decide +kernel)) rfl
theorem w_873 : (.fieldLink "java/lang/Integer" 87 "java/lang/Integer" "DigitTens" "[B" : Cond) ∈ TB := TB_mem (List.mem_of_getElem? (i := 873) (by decide +kernel)) rfl
theorem w_892 : (.methodLink "java/lang/StringBuilder" 343 ⟨"java/lang/AbstractStringBuilder", "length", "()I"⟩ : Cond) ∈ TB := TB_mem (List.mem_of_getElem? (i := 892) (by decide +kernel)) rfl
theorem w_893 : (.instanceMethod ⟨"java/lang/AbstractStringBuilder", "length", "()I"⟩ : Cond) ∈ TB := TB_mem (List.mem_of_getElem? (i := 893) (by decide +kernel)) rfl
theorem w_894 : (.code yJ5_length_8abf5 cJ5_length_8abf5 1 (some .int) : Cond) ∈ TB := TB_mem (List.mem_of_getElem? (i := 894) (by decide +kernel)) rfl
theorem w_899 : (.methodLink "java/lang/StringBuilder" 329 ⟨"java/lang/AbstractStringBuilder", "charAt", "(I)C"⟩ : Cond) ∈ TB := TB_mem (List.mem_of_getElem? (i := 899) (by decide +kernel)) rfl
theorem w_900 : (.instanceMethod ⟨"java/lang/AbstractStringBuilder", "charAt", "(I)C"⟩ : Cond) ∈ TB := TB_mem (List.mem_of_getElem? (i := 900) (by decide +kernel)) rfl
theorem w_901 : (.code yJ5_charAt_5068e cJ5_charAt_5068e 5 (some .char) : Cond) ∈ TB := TB_mem (List.mem_of_getElem? (i := 901) (by decide +kernel)) rfl
theorem w_902 : (.methodLink "java/lang/AbstractStringBuilder" 138 Lib.Math.min.name : Cond) ∈ TB := TB_mem (List.mem_of_getElem? (i := 902) (by decide +kernel)) rfl
theorem w_903 : (.methodLink "java/lang/AbstractStringBuilder" 144 ⟨"java/lang/String", "checkIndex", "(II)V"⟩ : Cond) ∈ TB := TB_mem (List.mem_of_getElem? (i := 903) (by decide +kernel)) rfl
theorem w_904 : (.static ⟨"java/lang/String", "checkIndex", "(II)V"⟩ : Cond) ∈ TB := TB_mem (List.mem_of_getElem? (i := 904) (by decide +kernel)) rfl
theorem w_905 : (.code yJ0_checkIndex_df160 cJ0_checkIndex_df160 2 none : Cond) ∈ TB := TB_mem (List.mem_of_getElem? (i := 905) (by decide +kernel)) rfl
theorem w_906 : (.methodLink "java/lang/String" 1059 ⟨"jdk/internal/util/Preconditions", "checkIndex", "(IILjava/util/function/BiFunction;)I"⟩ : Cond) ∈ TB := TB_mem (List.mem_of_getElem? (i := 906) (by decide +kernel)) rfl
theorem w_956 : (.sameMethod "java/lang/AbstractStringBuilder" "java/lang/AbstractStringBuilder" "length" "()I" : Cond) ∈ TB := TB_mem (List.mem_of_getElem? (i := 956) (by decide +kernel)) rfl
theorem w_957 : (.sameMethod "java/lang/AbstractStringBuilder" "java/lang/AbstractStringBuilder" "charAt" "(I)C" : Cond) ∈ TB := TB_mem (List.mem_of_getElem? (i := 957) (by decide +kernel)) rfl
def dgN (n : Nat) : Nat := if n < 10 then 1 else 2
theorem ss10 : ∀ n, n < 100 → (-nI n ≤ (-10 : Int32) ↔ 10 ≤ n) := by decide
theorem ss99 : ∀ n, n < 100 → ¬ (-nI n ≤ (-100 : Int32)) := by decide
theorem gc1 : ∀ n, n < 100 → (-(-nI n)).toNatClampNeg = n ∧ -(-nI n) = nI n ∧ (-100 : Int32) < -nI n ∧ ((-9 : Int32) ≤ -nI n ↔ n < 10) := by decide
theorem gcd : ∀ n, n < 10 → vp_nar .byte (nI (48 + n)) = nI (48 + n) := by decide
theorem pk_dec (c : Nat) : nI (c + 1) + (-1) = nI c := by rw [nIm2]; exact nI_pred c
theorem dgN_le (n : Nat) : dgN n ≤ 2 := by unfold dgN; split <;> decide
theorem dgN_pos (n : Nat) : 1 ≤ dgN n := by unfold dgN; split <;> decide
theorem dJ6_stringSize_0f7a4_0 : decode cJ6_stringSize_0f7a4 0 = .ok (.iconst 1, 1) := by decide +kernel
theorem dJ6_stringSize_0f7a4_1 : decode cJ6_stringSize_0f7a4 1 = .ok (.istore_n 1, 1) := by decide +kernel
theorem dJ6_stringSize_0f7a4_2 : decode cJ6_stringSize_0f7a4 2 = .ok (.iload_n 0, 1) := by decide +kernel
theorem dJ6_stringSize_0f7a4_3 : decode cJ6_stringSize_0f7a4 3 = .ok (.ifCond .lt 8, 3) := by decide +kernel
theorem dJ6_stringSize_0f7a4_6 : decode cJ6_stringSize_0f7a4 6 = .ok (.iconst 0, 1) := by decide +kernel
theorem dJ6_stringSize_0f7a4_7 : decode cJ6_stringSize_0f7a4 7 = .ok (.istore_n 1, 1) := by decide +kernel
theorem dJ6_stringSize_0f7a4_8 : decode cJ6_stringSize_0f7a4 8 = .ok (.iload_n 0, 1) := by decide +kernel
theorem dJ6_stringSize_0f7a4_9 : decode cJ6_stringSize_0f7a4 9 = .ok (.ineg, 1) := by decide +kernel
theorem dJ6_stringSize_0f7a4_10 : decode cJ6_stringSize_0f7a4 10 = .ok (.istore_n 0, 1) := by decide +kernel
theorem dJ6_stringSize_0f7a4_11 : decode cJ6_stringSize_0f7a4 11 = .ok (.bipush (-10), 2) := by decide +kernel
theorem dJ6_stringSize_0f7a4_13 : decode cJ6_stringSize_0f7a4 13 = .ok (.istore_n 2, 1) := by decide +kernel
theorem dJ6_stringSize_0f7a4_14 : decode cJ6_stringSize_0f7a4 14 = .ok (.iconst 1, 1) := by decide +kernel
theorem dJ6_stringSize_0f7a4_15 : decode cJ6_stringSize_0f7a4 15 = .ok (.istore_n 3, 1) := by decide +kernel
theorem dJ6_stringSize_0f7a4_16 : decode cJ6_stringSize_0f7a4 16 = .ok (.iload_n 3, 1) := by decide +kernel
theorem dJ6_stringSize_0f7a4_17 : decode cJ6_stringSize_0f7a4 17 = .ok (.bipush 10, 2) := by decide +kernel
theorem dJ6_stringSize_0f7a4_19 : decode cJ6_stringSize_0f7a4 19 = .ok (.if_icmp .ge 23, 3) := by decide +kernel
theorem dJ6_stringSize_0f7a4_22 : decode cJ6_stringSize_0f7a4 22 = .ok (.iload_n 0, 1) := by decide +kernel
theorem dJ6_stringSize_0f7a4_23 : decode cJ6_stringSize_0f7a4 23 = .ok (.iload_n 2, 1) := by decide +kernel
theorem dJ6_stringSize_0f7a4_24 : decode cJ6_stringSize_0f7a4 24 = .ok (.if_icmp .le 7, 3) := by decide +kernel
theorem dJ6_stringSize_0f7a4_27 : decode cJ6_stringSize_0f7a4 27 = .ok (.iload_n 3, 1) := by decide +kernel
theorem dJ6_stringSize_0f7a4_28 : decode cJ6_stringSize_0f7a4 28 = .ok (.iload_n 1, 1) := by decide +kernel
theorem dJ6_stringSize_0f7a4_29 : decode cJ6_stringSize_0f7a4 29 = .ok (.iadd, 1) := by decide +kernel
theorem dJ6_stringSize_0f7a4_30 : decode cJ6_stringSize_0f7a4 30 = .ok (.ireturn, 1) := by decide +kernel
theorem dJ6_stringSize_0f7a4_31 : decode cJ6_stringSize_0f7a4 31 = .ok (.bipush 10, 2) := by decide +kernel
theorem dJ6_stringSize_0f7a4_33 : decode cJ6_stringSize_0f7a4 33 = .ok (.iload_n 2, 1) := by decide +kernel
theorem dJ6_stringSize_0f7a4_34 : decode cJ6_stringSize_0f7a4 34 = .ok (.imul, 1) := by decide +kernel
theorem dJ6_stringSize_0f7a4_35 : decode cJ6_stringSize_0f7a4 35 = .ok (.istore_n 2, 1) := by decide +kernel
theorem dJ6_stringSize_0f7a4_36 : decode cJ6_stringSize_0f7a4 36 = .ok (.iinc 3 1, 3) := by decide +kernel
theorem dJ6_stringSize_0f7a4_39 : decode cJ6_stringSize_0f7a4 39 = .ok (.goto (-23), 3) := by decide +kernel
theorem dJ6_stringSize_0f7a4_42 : decode cJ6_stringSize_0f7a4 42 = .ok (.bipush 10, 2) := by decide +kernel
theorem dJ6_stringSize_0f7a4_44 : decode cJ6_stringSize_0f7a4 44 = .ok (.iload_n 1, 1) := by decide +kernel
theorem dJ6_stringSize_0f7a4_45 : decode cJ6_stringSize_0f7a4 45 = .ok (.iadd, 1) := by decide +kernel
theorem dJ6_stringSize_0f7a4_46 : decode cJ6_stringSize_0f7a4 46 = .ok (.ireturn, 1) := by decide +kernel
def tab_J6_stringSize_0f7a4 : List (Nat × Sem) := [(0, op_ic 1 1), (1, op_is 1 2), (2, op_il 0 3), (3, op_if (fun x => x < 0) 11 6), (6, op_ic 0 7), (7, op_is 1 8), (8, op_il 0 9), (9, op_neg 10), (10, op_is 0 11), (11, op_ic (-10) 13), (13, op_is 2 14), (14, op_ic 1 15), (15, op_is 3 16), (16, op_il 3 17), (17, op_ic 10 19), (19, op_cmp (fun x y => y ≤ x) 42 22), (22, op_il 0 23), (23, op_il 2 24), (24, op_cmp (fun x y => x ≤ y) 31 27), (27, op_il 3 28), (28, op_il 1 29), (29, op_bin (fun x y => x + y) 30), (30, op_iret), (31, op_ic 10 33), (33, op_il 2 34), (34, op_bin (fun x y => x * y) 35), (35, op_is 2 36), (36, op_inc 3 1 39), (39, op_go 16), (42, op_ic 10 44), (44, op_il 1 45), (45, op_bin (fun x y => x + y) 46), (46, op_iret)]
set_option maxRecDepth 20000 in
theorem tok_J6_stringSize_0f7a4 : ∀ q ∈ tab_J6_stringSize_0f7a4, Snd RJ6 cJ6_stringSize_0f7a4 4 0 0 (some .int) q.1 q.2 := by
  unfold tab_J6_stringSize_0f7a4
  refine tcons (ok_iconst dJ6_stringSize_0f7a4_0 rfl rfl) ?_
  refine tcons (ok_istore_n dJ6_stringSize_0f7a4_1 rfl (by decide) rfl) ?_
  refine tcons (ok_iload_n dJ6_stringSize_0f7a4_2 rfl rfl) ?_
  refine tcons (ok_if_lt dJ6_stringSize_0f7a4_3 rfl rfl) ?_
  refine tcons (ok_iconst dJ6_stringSize_0f7a4_6 rfl rfl) ?_
  refine tcons (ok_istore_n dJ6_stringSize_0f7a4_7 rfl (by decide) rfl) ?_
  refine tcons (ok_iload_n dJ6_stringSize_0f7a4_8 rfl rfl) ?_
  refine tcons (ok_ineg dJ6_stringSize_0f7a4_9 rfl) ?_
  refine tcons (ok_istore_n dJ6_stringSize_0f7a4_10 rfl (by decide) rfl) ?_
  refine tcons (ok_bipush dJ6_stringSize_0f7a4_11 rfl rfl) ?_
  refine tcons (ok_istore_n dJ6_stringSize_0f7a4_13 rfl (by decide) rfl) ?_
  refine tcons (ok_iconst dJ6_stringSize_0f7a4_14 rfl rfl) ?_
  refine tcons (ok_istore_n dJ6_stringSize_0f7a4_15 rfl (by decide) rfl) ?_
  refine tcons (ok_iload_n dJ6_stringSize_0f7a4_16 rfl rfl) ?_
  refine tcons (ok_bipush dJ6_stringSize_0f7a4_17 rfl rfl) ?_
  refine tcons (ok_icmp_ge dJ6_stringSize_0f7a4_19 rfl rfl) ?_
  refine tcons (ok_iload_n dJ6_stringSize_0f7a4_22 rfl rfl) ?_
  refine tcons (ok_iload_n dJ6_stringSize_0f7a4_23 rfl rfl) ?_
  refine tcons (ok_icmp_le dJ6_stringSize_0f7a4_24 rfl rfl) ?_
  refine tcons (ok_iload_n dJ6_stringSize_0f7a4_27 rfl rfl) ?_
  refine tcons (ok_iload_n dJ6_stringSize_0f7a4_28 rfl rfl) ?_
  refine tcons (ok_iadd dJ6_stringSize_0f7a4_29 rfl) ?_
  refine tcons (ok_ireturn rfl dJ6_stringSize_0f7a4_30) ?_
  refine tcons (ok_bipush dJ6_stringSize_0f7a4_31 rfl rfl) ?_
  refine tcons (ok_iload_n dJ6_stringSize_0f7a4_33 rfl rfl) ?_
  refine tcons (ok_imul dJ6_stringSize_0f7a4_34 rfl) ?_
  refine tcons (ok_istore_n dJ6_stringSize_0f7a4_35 rfl (by decide) rfl) ?_
  refine tcons (ok_iinc dJ6_stringSize_0f7a4_36 rfl (by decide) rfl) ?_
  refine tcons (ok_goto dJ6_stringSize_0f7a4_39 rfl) ?_
  refine tcons (ok_bipush dJ6_stringSize_0f7a4_42 rfl rfl) ?_
  refine tcons (ok_iload_n dJ6_stringSize_0f7a4_44 rfl rfl) ?_
  refine tcons (ok_iadd dJ6_stringSize_0f7a4_45 rfl) ?_
  refine tcons (ok_ireturn rfl dJ6_stringSize_0f7a4_46) ?_
  exact fun _ h => nomatch h
def sp_J6_stringSize_0f7a4 : Spc := fun av s N _ => match av with
  | [.inl (.inl v)] => ∃ n, n < 100 ∧ v = nI n ∧ N (some (aI (nI (dgN n)))) s
  | _ => False
set_option maxRecDepth 20000 in
set_option maxHeartbeats 2000000 in
theorem M_J6_stringSize_0f7a4 : AMet yJ6_stringSize_0f7a4 cJ6_stringSize_0f7a4 4 (some .int) 0 0 sp_J6_stringSize_0f7a4 := by
  refine AMet.mc (own := RJ6) (by decide) rfl [0, 1, 2, 3] rfl tok_J6_stringSize_0f7a4 200 ?_
  intro av s0 N X h
  unfold sp_J6_stringSize_0f7a4 at h
  split at h
  rotate_left
  · exact h.elim
  rename_i v
  obtain ⟨n, hn, rfl, h⟩ := h
  have h0 : ¬ nI n < 0 := nI_pos (by omega)
  refine ⟨[], ?_, an⟩
  refine ⟨fun q => absurd q h0, fun _ => ⟨fun q => absurd q (by decide), fun _ => ?_⟩⟩
  by_cases h10 : n < 10
  · unfold dgN at h
    rw [if_pos h10] at h
    exact ⟨fun q => absurd ((ss10 n hn).mp q) (by omega), fun _ => ⟨by decide, h⟩⟩
  · unfold dgN at h
    rw [if_neg h10] at h
    exact ⟨fun _ => ⟨fun q => absurd q (by decide), fun _ => ⟨fun q => absurd q (ss99 n hn), fun _ => ⟨by decide, h⟩⟩⟩, fun q => absurd ((ss10 n hn).mpr (by omega)) q⟩
theorem dJ6_getChars_ba4f3_0 : decode cJ6_getChars_ba4f3 0 = .ok (.iload_n 1, 1) := by decide +kernel
theorem dJ6_getChars_ba4f3_1 : decode cJ6_getChars_ba4f3 1 = .ok (.istore 5, 2) := by decide +kernel
theorem dJ6_getChars_ba4f3_3 : decode cJ6_getChars_ba4f3 3 = .ok (.iload_n 0, 1) := by decide +kernel
theorem dJ6_getChars_ba4f3_4 : decode cJ6_getChars_ba4f3 4 = .ok (.ifCond .ge 7, 3) := by decide +kernel
theorem dJ6_getChars_ba4f3_7 : decode cJ6_getChars_ba4f3 7 = .ok (.iconst 1, 1) := by decide +kernel
theorem dJ6_getChars_ba4f3_8 : decode cJ6_getChars_ba4f3 8 = .ok (.goto 4, 3) := by decide +kernel
theorem dJ6_getChars_ba4f3_11 : decode cJ6_getChars_ba4f3 11 = .ok (.iconst 0, 1) := by decide +kernel
theorem dJ6_getChars_ba4f3_12 : decode cJ6_getChars_ba4f3 12 = .ok (.istore 6, 2) := by decide +kernel
theorem dJ6_getChars_ba4f3_14 : decode cJ6_getChars_ba4f3 14 = .ok (.iload 6, 2) := by decide +kernel
theorem dJ6_getChars_ba4f3_16 : decode cJ6_getChars_ba4f3 16 = .ok (.ifCond .ne 6, 3) := by decide +kernel
theorem dJ6_getChars_ba4f3_19 : decode cJ6_getChars_ba4f3 19 = .ok (.iload_n 0, 1) := by decide +kernel
theorem dJ6_getChars_ba4f3_20 : decode cJ6_getChars_ba4f3 20 = .ok (.ineg, 1) := by decide +kernel
theorem dJ6_getChars_ba4f3_21 : decode cJ6_getChars_ba4f3 21 = .ok (.istore_n 0, 1) := by decide +kernel
theorem dJ6_getChars_ba4f3_22 : decode cJ6_getChars_ba4f3 22 = .ok (.iload_n 0, 1) := by decide +kernel
theorem dJ6_getChars_ba4f3_23 : decode cJ6_getChars_ba4f3 23 = .ok (.bipush (-100), 2) := by decide +kernel
theorem dJ6_getChars_ba4f3_25 : decode cJ6_getChars_ba4f3 25 = .ok (.if_icmp .gt 47, 3) := by decide +kernel
theorem dJ6_getChars_ba4f3_28 : decode cJ6_getChars_ba4f3 28 = .ok (.iload_n 0, 1) := by decide +kernel
theorem dJ6_getChars_ba4f3_29 : decode cJ6_getChars_ba4f3 29 = .ok (.bipush 100, 2) := by decide +kernel
theorem dJ6_getChars_ba4f3_31 : decode cJ6_getChars_ba4f3 31 = .ok (.idiv, 1) := by decide +kernel
theorem dJ6_getChars_ba4f3_32 : decode cJ6_getChars_ba4f3 32 = .ok (.istore_n 3, 1) := by decide +kernel
theorem dJ6_getChars_ba4f3_33 : decode cJ6_getChars_ba4f3 33 = .ok (.iload_n 3, 1) := by decide +kernel
theorem dJ6_getChars_ba4f3_34 : decode cJ6_getChars_ba4f3 34 = .ok (.bipush 100, 2) := by decide +kernel
theorem dJ6_getChars_ba4f3_36 : decode cJ6_getChars_ba4f3 36 = .ok (.imul, 1) := by decide +kernel
theorem dJ6_getChars_ba4f3_37 : decode cJ6_getChars_ba4f3 37 = .ok (.iload_n 0, 1) := by decide +kernel
theorem dJ6_getChars_ba4f3_38 : decode cJ6_getChars_ba4f3 38 = .ok (.isub, 1) := by decide +kernel
theorem dJ6_getChars_ba4f3_39 : decode cJ6_getChars_ba4f3 39 = .ok (.istore 4, 2) := by decide +kernel
theorem dJ6_getChars_ba4f3_41 : decode cJ6_getChars_ba4f3 41 = .ok (.iload_n 3, 1) := by decide +kernel
theorem dJ6_getChars_ba4f3_42 : decode cJ6_getChars_ba4f3 42 = .ok (.istore_n 0, 1) := by decide +kernel
theorem dJ6_getChars_ba4f3_43 : decode cJ6_getChars_ba4f3 43 = .ok (.aload_n 2, 1) := by decide +kernel
theorem dJ6_getChars_ba4f3_44 : decode cJ6_getChars_ba4f3 44 = .ok (.iinc 5 (-1), 3) := by decide +kernel
theorem dJ6_getChars_ba4f3_47 : decode cJ6_getChars_ba4f3 47 = .ok (.iload 5, 2) := by decide +kernel
theorem dJ6_getChars_ba4f3_49 : decode cJ6_getChars_ba4f3 49 = .ok (.getstatic 83, 3) := by decide +kernel
theorem dJ6_getChars_ba4f3_52 : decode cJ6_getChars_ba4f3 52 = .ok (.iload 4, 2) := by decide +kernel
theorem dJ6_getChars_ba4f3_54 : decode cJ6_getChars_ba4f3 54 = .ok (.baload, 1) := by decide +kernel
theorem dJ6_getChars_ba4f3_55 : decode cJ6_getChars_ba4f3 55 = .ok (.bastore, 1) := by decide +kernel
theorem dJ6_getChars_ba4f3_56 : decode cJ6_getChars_ba4f3 56 = .ok (.aload_n 2, 1) := by decide +kernel
theorem dJ6_getChars_ba4f3_57 : decode cJ6_getChars_ba4f3 57 = .ok (.iinc 5 (-1), 3) := by decide +kernel
theorem dJ6_getChars_ba4f3_60 : decode cJ6_getChars_ba4f3 60 = .ok (.iload 5, 2) := by decide +kernel
theorem dJ6_getChars_ba4f3_62 : decode cJ6_getChars_ba4f3 62 = .ok (.getstatic 87, 3) := by decide +kernel
theorem dJ6_getChars_ba4f3_65 : decode cJ6_getChars_ba4f3 65 = .ok (.iload 4, 2) := by decide +kernel
theorem dJ6_getChars_ba4f3_67 : decode cJ6_getChars_ba4f3 67 = .ok (.baload, 1) := by decide +kernel
theorem dJ6_getChars_ba4f3_68 : decode cJ6_getChars_ba4f3 68 = .ok (.bastore, 1) := by decide +kernel
theorem dJ6_getChars_ba4f3_69 : decode cJ6_getChars_ba4f3 69 = .ok (.goto (-47), 3) := by decide +kernel
theorem dJ6_getChars_ba4f3_72 : decode cJ6_getChars_ba4f3 72 = .ok (.aload_n 2, 1) := by decide +kernel
theorem dJ6_getChars_ba4f3_73 : decode cJ6_getChars_ba4f3 73 = .ok (.iinc 5 (-1), 3) := by decide +kernel
theorem dJ6_getChars_ba4f3_76 : decode cJ6_getChars_ba4f3 76 = .ok (.iload 5, 2) := by decide +kernel
theorem dJ6_getChars_ba4f3_78 : decode cJ6_getChars_ba4f3 78 = .ok (.getstatic 83, 3) := by decide +kernel
theorem dJ6_getChars_ba4f3_81 : decode cJ6_getChars_ba4f3 81 = .ok (.iload_n 0, 1) := by decide +kernel
theorem dJ6_getChars_ba4f3_82 : decode cJ6_getChars_ba4f3 82 = .ok (.ineg, 1) := by decide +kernel
theorem dJ6_getChars_ba4f3_83 : decode cJ6_getChars_ba4f3 83 = .ok (.baload, 1) := by decide +kernel
theorem dJ6_getChars_ba4f3_84 : decode cJ6_getChars_ba4f3 84 = .ok (.bastore, 1) := by decide +kernel
theorem dJ6_getChars_ba4f3_85 : decode cJ6_getChars_ba4f3 85 = .ok (.iload_n 0, 1) := by decide +kernel
theorem dJ6_getChars_ba4f3_86 : decode cJ6_getChars_ba4f3 86 = .ok (.bipush (-9), 2) := by decide +kernel
theorem dJ6_getChars_ba4f3_88 : decode cJ6_getChars_ba4f3 88 = .ok (.if_icmp .ge 16, 3) := by decide +kernel
theorem dJ6_getChars_ba4f3_91 : decode cJ6_getChars_ba4f3 91 = .ok (.aload_n 2, 1) := by decide +kernel
theorem dJ6_getChars_ba4f3_92 : decode cJ6_getChars_ba4f3 92 = .ok (.iinc 5 (-1), 3) := by decide +kernel
theorem dJ6_getChars_ba4f3_95 : decode cJ6_getChars_ba4f3 95 = .ok (.iload 5, 2) := by decide +kernel
theorem dJ6_getChars_ba4f3_97 : decode cJ6_getChars_ba4f3 97 = .ok (.getstatic 87, 3) := by decide +kernel
theorem dJ6_getChars_ba4f3_100 : decode cJ6_getChars_ba4f3 100 = .ok (.iload_n 0, 1) := by decide +kernel
theorem dJ6_getChars_ba4f3_101 : decode cJ6_getChars_ba4f3 101 = .ok (.ineg, 1) := by decide +kernel
theorem dJ6_getChars_ba4f3_102 : decode cJ6_getChars_ba4f3 102 = .ok (.baload, 1) := by decide +kernel
theorem dJ6_getChars_ba4f3_103 : decode cJ6_getChars_ba4f3 103 = .ok (.bastore, 1) := by decide +kernel
theorem dJ6_getChars_ba4f3_104 : decode cJ6_getChars_ba4f3 104 = .ok (.iload 6, 2) := by decide +kernel
theorem dJ6_getChars_ba4f3_106 : decode cJ6_getChars_ba4f3 106 = .ok (.ifCond .eq 12, 3) := by decide +kernel
theorem dJ6_getChars_ba4f3_109 : decode cJ6_getChars_ba4f3 109 = .ok (.aload_n 2, 1) := by decide +kernel
theorem dJ6_getChars_ba4f3_110 : decode cJ6_getChars_ba4f3 110 = .ok (.iinc 5 (-1), 3) := by decide +kernel
theorem dJ6_getChars_ba4f3_113 : decode cJ6_getChars_ba4f3 113 = .ok (.iload 5, 2) := by decide +kernel
theorem dJ6_getChars_ba4f3_115 : decode cJ6_getChars_ba4f3 115 = .ok (.bipush 45, 2) := by decide +kernel
theorem dJ6_getChars_ba4f3_117 : decode cJ6_getChars_ba4f3 117 = .ok (.bastore, 1) := by decide +kernel
theorem dJ6_getChars_ba4f3_118 : decode cJ6_getChars_ba4f3 118 = .ok (.iload 5, 2) := by decide +kernel
theorem dJ6_getChars_ba4f3_120 : decode cJ6_getChars_ba4f3 120 = .ok (.ireturn, 1) := by decide +kernel
def tab_J6_getChars_ba4f3 : List (Nat × Sem) := [(0, op_il 1 1), (1, op_is 5 3), (3, op_il 0 4), (4, op_if (fun x => 0 ≤ x) 11 7), (11, op_ic 0 12), (12, op_is 6 14), (14, op_il 6 16), (16, op_if (fun x => ¬ x = 0) 22 19), (19, op_il 0 20), (20, op_neg 21), (21, op_is 0 22), (22, op_il 0 23), (23, op_ic (-100) 25), (25, op_cmp (fun x y => y < x) 72 28), (72, op_al 2 73), (73, op_inc 5 (-1) 76), (76, op_il 5 78), (78, op_gs 72 1 81), (81, op_il 0 82), (82, op_neg 83), (83, op_bld 84), (84, op_bst 85), (85, op_il 0 86), (86, op_ic (-9) 88), (88, op_cmp (fun x y => y ≤ x) 104 91), (91, op_al 2 92), (92, op_inc 5 (-1) 95), (95, op_il 5 97), (97, op_gs 72 0 100), (100, op_il 0 101), (101, op_neg 102), (102, op_bld 103), (103, op_bst 104), (104, op_il 6 106), (106, op_if (fun x => x = 0) 118 109), (118, op_il 5 120), (120, op_iret)]
set_option maxRecDepth 20000 in
theorem tok_J6_getChars_ba4f3 : ∀ q ∈ tab_J6_getChars_ba4f3, Snd RJ6 cJ6_getChars_ba4f3 7 0 0 (some .int) q.1 q.2 := by
  unfold tab_J6_getChars_ba4f3
  refine tcons (ok_iload_n dJ6_getChars_ba4f3_0 rfl rfl) ?_
  refine tcons (ok_istore dJ6_getChars_ba4f3_1 (by decide) rfl) ?_
  refine tcons (ok_iload_n dJ6_getChars_ba4f3_3 rfl rfl) ?_
  refine tcons (ok_if_ge dJ6_getChars_ba4f3_4 rfl rfl) ?_
  refine tcons (ok_iconst dJ6_getChars_ba4f3_11 rfl rfl) ?_
  refine tcons (ok_istore dJ6_getChars_ba4f3_12 (by decide) rfl) ?_
  refine tcons (ok_iload dJ6_getChars_ba4f3_14 rfl) ?_
  refine tcons (ok_if_ne dJ6_getChars_ba4f3_16 rfl rfl) ?_
  refine tcons (ok_iload_n dJ6_getChars_ba4f3_19 rfl rfl) ?_
  refine tcons (ok_ineg dJ6_getChars_ba4f3_20 rfl) ?_
  refine tcons (ok_istore_n dJ6_getChars_ba4f3_21 rfl (by decide) rfl) ?_
  refine tcons (ok_iload_n dJ6_getChars_ba4f3_22 rfl rfl) ?_
  refine tcons (ok_bipush dJ6_getChars_ba4f3_23 rfl rfl) ?_
  refine tcons (ok_icmp_gt dJ6_getChars_ba4f3_25 rfl rfl) ?_
  refine tcons (ok_aload_n dJ6_getChars_ba4f3_72 rfl rfl) ?_
  refine tcons (ok_iinc dJ6_getChars_ba4f3_73 rfl (by decide) rfl) ?_
  refine tcons (ok_iload dJ6_getChars_ba4f3_76 rfl) ?_
  refine tcons (ok_gs (by decide) (fun g U h => (gz h).2.2.2.2.2.2.2.1) w_871 dJ6_getChars_ba4f3_78 rfl) ?_
  refine tcons (ok_iload_n dJ6_getChars_ba4f3_81 rfl rfl) ?_
  refine tcons (ok_ineg dJ6_getChars_ba4f3_82 rfl) ?_
  refine tcons (ok_bld dJ6_getChars_ba4f3_83 rfl) ?_
  refine tcons (ok_bst dJ6_getChars_ba4f3_84 rfl) ?_
  refine tcons (ok_iload_n dJ6_getChars_ba4f3_85 rfl rfl) ?_
  refine tcons (ok_bipush dJ6_getChars_ba4f3_86 rfl rfl) ?_
  refine tcons (ok_icmp_ge dJ6_getChars_ba4f3_88 rfl rfl) ?_
  refine tcons (ok_aload_n dJ6_getChars_ba4f3_91 rfl rfl) ?_
  refine tcons (ok_iinc dJ6_getChars_ba4f3_92 rfl (by decide) rfl) ?_
  refine tcons (ok_iload dJ6_getChars_ba4f3_95 rfl) ?_
  refine tcons (ok_gs (by decide) (fun g U h => (gz h).2.2.2.2.2.2.1.1) w_873 dJ6_getChars_ba4f3_97 rfl) ?_
  refine tcons (ok_iload_n dJ6_getChars_ba4f3_100 rfl rfl) ?_
  refine tcons (ok_ineg dJ6_getChars_ba4f3_101 rfl) ?_
  refine tcons (ok_bld dJ6_getChars_ba4f3_102 rfl) ?_
  refine tcons (ok_bst dJ6_getChars_ba4f3_103 rfl) ?_
  refine tcons (ok_iload dJ6_getChars_ba4f3_104 rfl) ?_
  refine tcons (ok_if_eq dJ6_getChars_ba4f3_106 rfl rfl) ?_
  refine tcons (ok_iload dJ6_getChars_ba4f3_118 rfl) ?_
  refine tcons (ok_ireturn rfl dJ6_getChars_ba4f3_120) ?_
  exact fun _ h => nomatch h
/-- a number's digits into the builder's row -/
def putD (s : Sg) (c n : Nat) : Sg := if n < 10 then stS s 19 0 c (nI (48 + n % 10)) else stS (stS s 19 0 (c + 1) (nI (48 + n % 10))) 19 0 c (nI (48 + n / 10))
def sp_J6_getChars_ba4f3 : Spc := fun av s N _ => match av with
  | [.inl (.inl v), .inl (.inl x), .inl (.inr (19, 0))] => ∃ n c, n < 100 ∧ v = nI n ∧ x = nI (c + dgN n) ∧ c + dgN n ≤ s.1 13 ∧ s.1 13 ≤ 34 ∧ Lv s 19 0 ∧ N (some (aI (nI c))) (putD s c n)
  | _ => False
set_option maxRecDepth 20000 in
set_option maxHeartbeats 2000000 in
theorem M_J6_getChars_ba4f3 : AMet yJ6_getChars_ba4f3 cJ6_getChars_ba4f3 7 (some .int) 0 0 sp_J6_getChars_ba4f3 := by
  refine AMet.mc (own := RJ6) (by decide) rfl [0, 1, 2, 3, 4, 5, 6] rfl tok_J6_getChars_ba4f3 200 ?_
  intro av s0 N X h
  unfold sp_J6_getChars_ba4f3 at h
  split at h
  rotate_left
  · exact h.elim
  rename_i v x
  obtain ⟨n, c, hn, rfl, rfl, hc, h34, hL, h⟩ := h
  obtain ⟨e1, e2, e3, e4⟩ := gc1 n hn
  have b1 : Ib (-(-nI n)) 100 := by rw [e2]; exact nIb hn (by decide)
  have v1 : vp_nar .byte (nI (48 + n % 10)) = nI (48 + n % 10) := gcd _ (by omega)
  have v2 : vp_nar .byte (nI (48 + n / 10)) = nI (48 + n / 10) := gcd _ (by omega)
  refine ⟨[], ?_, an⟩
  refine ⟨fun _ => ⟨fun q => absurd rfl q, fun _ => ⟨fun _ => ?_, fun q => absurd e3 q⟩⟩, fun q => absurd (nI_pos' (by omega)) q⟩
  by_cases h10 : n < 10
  · unfold dgN at hc ⊢
    unfold putD at h
    rw [if_pos h10] at hc ⊢ h
    refine ⟨b1, hL, ?_, ?_, fun _ => ⟨fun _ => ⟨by decide, ?_⟩, fun q => absurd rfl q⟩, fun q => absurd (e4.mpr h10) q⟩
    · rw [pk_dec]; exact nIb (by omega) (by omega)
    · rw [e1]; exact v1
    · rw [e1, pk_dec, nI_clamp (by omega)]
      exact h
  · unfold dgN at hc ⊢
    unfold putD at h
    rw [if_neg h10] at hc ⊢ h
    have p2 : nI (c + 2) + (-1) = nI (c + 1) := pk_dec (c + 1)
    refine ⟨b1, hL, ?_, ?_, fun q => absurd (e4.mp q) h10, fun _ => ⟨b1, hL, ?_, ?_, fun _ => ⟨by decide, ?_⟩, fun q => absurd rfl q⟩⟩
    · rw [p2]; exact nIb (by omega) (by omega)
    · rw [e1]; exact v1
    · rw [p2, pk_dec]; exact (show Ib (nI c) (s0.1 13) from nIb (by omega) (by omega))
    · rw [e1]; exact v2
    · rw [e1, p2, pk_dec, nI_clamp (by omega), nI_clamp (by omega)]
      exact h
theorem dJ5_length_8abf5_0 : decode cJ5_length_8abf5 0 = .ok (.aload_n 0, 1) := by decide +kernel
theorem dJ5_length_8abf5_1 : decode cJ5_length_8abf5 1 = .ok (.getfield 79, 3) := by decide +kernel
theorem dJ5_length_8abf5_4 : decode cJ5_length_8abf5 4 = .ok (.ireturn, 1) := by decide +kernel
def tab_J5_length_8abf5 : List (Nat × Sem) := [(0, op_al 0 1), (1, op_gf 0 3 4), (4, op_iret)]
set_option maxRecDepth 20000 in
theorem tok_J5_length_8abf5 : ∀ q ∈ tab_J5_length_8abf5, Snd RJ5 cJ5_length_8abf5 1 0 0 (some .int) q.1 q.2 := by
  unfold tab_J5_length_8abf5
  refine tcons (ok_aload_n dJ5_length_8abf5_0 rfl rfl) ?_
  refine tcons (ok_getfield (C := RJ4) (T := TJ4) (n := 4) rfl in_J4 (by decide) w_741 dJ5_length_8abf5_1 rfl) ?_
  refine tcons (ok_ireturn rfl dJ5_length_8abf5_4) ?_
  exact fun _ h => nomatch h
def sp_J5_length_8abf5 : Spc := fun av s N _ => match av with
  | [.inl (.inr (18, 0))] => Lv s 18 0 ∧ N (some (aI (s.2.1 18 0 3))) s
  | _ => False
set_option maxRecDepth 20000 in
set_option maxHeartbeats 2000000 in
theorem M_J5_length_8abf5 : AMet yJ5_length_8abf5 cJ5_length_8abf5 1 (some .int) 0 0 sp_J5_length_8abf5 := by
  refine AMet.mk (own := RJ5) (by decide) rfl [0] rfl tok_J5_length_8abf5 200 ?_
  intro av s0 N X h
  unfold sp_J5_length_8abf5 at h
  split at h
  rotate_left
  · exact h.elim
  refine ⟨fun _ => none, ?_, fun pc P hP => nomatch hP⟩
  repeat' (first | apply And.intro | (intro q; exact absurd q (by decide)) | intro _)
  all_goals first | decide | (exact (rfl : (0 : Nat) = 0)) | (exact Nat.le_of_ble_eq_true rfl) | (exact h.1) | (exact h.2)
theorem dJ4_length_8abf5_0 : decode cJ4_length_8abf5 0 = .ok (.aload_n 0, 1) := by decide +kernel
theorem dJ4_length_8abf5_1 : decode cJ4_length_8abf5 1 = .ok (.invokespecial 343, 3) := by decide +kernel
theorem dJ4_length_8abf5_4 : decode cJ4_length_8abf5 4 = .ok (.ireturn, 1) := by decide +kernel
def tab_J4_length_8abf5 : List (Nat × Sem) := [(0, op_al 0 1), (1, op_callU sp_J5_length_8abf5 1 0 4), (4, op_iret)]
set_option maxRecDepth 20000 in
theorem tok_J4_length_8abf5 : ∀ q ∈ tab_J4_length_8abf5, Snd RJ4 cJ4_length_8abf5 1 1 0 (some .int) q.1 q.2 := by
  unfold tab_J4_length_8abf5
  refine tcons (ok_aload_n dJ4_length_8abf5_0 rfl rfl) ?_
  refine tcons (ok_callSU M_J5_length_8abf5 w_892 w_956 w_750 w_893 w_40 w_894 (by decide) (by decide +kernel) (by decide) (by decide) dJ4_length_8abf5_1 rfl) ?_
  refine tcons (ok_ireturn rfl dJ4_length_8abf5_4) ?_
  exact fun _ h => nomatch h
def sp_J4_length_8abf5 : Spc := fun av s N _ => match av with
  | [.inl (.inr (18, 0))] => Lv s 18 0 ∧ N (some (aI (s.2.1 18 0 3))) s
  | _ => False
set_option maxRecDepth 20000 in
set_option maxHeartbeats 2000000 in
theorem M_J4_length_8abf5 : AMet yJ4_length_8abf5 cJ4_length_8abf5 1 (some .int) 1 0 sp_J4_length_8abf5 := by
  refine AMet.mk (own := RJ4) (by decide) rfl [0] rfl tok_J4_length_8abf5 200 ?_
  intro av s0 N X h
  unfold sp_J4_length_8abf5 at h
  split at h
  rotate_left
  · exact h.elim
  refine ⟨fun _ => none, ?_, fun pc P hP => nomatch hP⟩
  repeat' (first | apply And.intro | (intro q; exact absurd q (by decide)) | intro _)
  all_goals first | decide | (exact (rfl : (0 : Nat) = 0)) | (exact Nat.le_of_ble_eq_true rfl) | (exact h.1) | (exact h.2)
theorem dJ0_checkIndex_df160_0 : decode cJ0_checkIndex_df160 0 = .ok (.iload_n 0, 1) := by decide +kernel
theorem dJ0_checkIndex_df160_1 : decode cJ0_checkIndex_df160 1 = .ok (.iload_n 1, 1) := by decide +kernel
theorem dJ0_checkIndex_df160_2 : decode cJ0_checkIndex_df160 2 = .ok (.getstatic 1053, 3) := by decide +kernel
theorem dJ0_checkIndex_df160_5 : decode cJ0_checkIndex_df160 5 = .ok (.invokestatic 1059, 3) := by decide +kernel
theorem dJ0_checkIndex_df160_8 : decode cJ0_checkIndex_df160 8 = .ok (.pop, 1) := by decide +kernel
theorem dJ0_checkIndex_df160_9 : decode cJ0_checkIndex_df160 9 = .ok (.return_, 1) := by decide +kernel
def tab_J0_checkIndex_df160 : List (Nat × Sem) := [(0, op_il 0 1), (1, op_il 1 2), (2, op_chk 8), (8, op_pop 9), (9, op_vret)]
set_option maxRecDepth 20000 in
theorem tok_J0_checkIndex_df160 : ∀ q ∈ tab_J0_checkIndex_df160, Snd RJ0 cJ0_checkIndex_df160 2 1 0 none q.1 q.2 := by
  unfold tab_J0_checkIndex_df160
  refine tcons (ok_iload_n dJ0_checkIndex_df160_0 rfl rfl) ?_
  refine tcons (ok_iload_n dJ0_checkIndex_df160_1 rfl rfl) ?_
  refine tcons (ok_chkS (fun g U h => (gz h).2.2.2.1) w_800 w_906 w_372 w_37 w_373 (by decide) dJ0_checkIndex_df160_2 dJ0_checkIndex_df160_5 rfl) ?_
  refine tcons (ok_pop dJ0_checkIndex_df160_8 rfl) ?_
  refine tcons (ok_vreturn rfl dJ0_checkIndex_df160_9) ?_
  exact fun _ h => nomatch h
def sp_J0_checkIndex_df160 : Spc := fun av s N _ => match av with
  | [.inl (.inl i), .inl (.inl n)] => 0 ≤ i ∧ i < n ∧ N none s
  | _ => False
set_option maxRecDepth 20000 in
set_option maxHeartbeats 2000000 in
theorem M_J0_checkIndex_df160 : AMet yJ0_checkIndex_df160 cJ0_checkIndex_df160 2 none 1 0 sp_J0_checkIndex_df160 := by
  refine AMet.mk (own := RJ0) (by decide) rfl [0, 1] rfl tok_J0_checkIndex_df160 200 ?_
  intro av s0 N X h
  unfold sp_J0_checkIndex_df160 at h
  split at h
  rotate_left
  · exact h.elim
  refine ⟨fun _ => none, ?_, fun pc P hP => nomatch hP⟩
  repeat' (first | apply And.intro | (intro q; exact absurd q (by decide)) | intro _)
  all_goals first | decide | (exact (rfl : (0 : Nat) = 0)) | (exact Nat.le_of_ble_eq_true rfl) | (exact h.1) | (exact h.2.1) | (exact h.2.2)
theorem dJ5_charAt_5068e_0 : decode cJ5_charAt_5068e 0 = .ok (.aload_n 0, 1) := by decide +kernel
theorem dJ5_charAt_5068e_1 : decode cJ5_charAt_5068e 1 = .ok (.getfield 22, 3) := by decide +kernel
theorem dJ5_charAt_5068e_4 : decode cJ5_charAt_5068e 4 = .ok (.istore_n 2, 1) := by decide +kernel
theorem dJ5_charAt_5068e_5 : decode cJ5_charAt_5068e 5 = .ok (.aload_n 0, 1) := by decide +kernel
theorem dJ5_charAt_5068e_6 : decode cJ5_charAt_5068e 6 = .ok (.getfield 15, 3) := by decide +kernel
theorem dJ5_charAt_5068e_9 : decode cJ5_charAt_5068e 9 = .ok (.astore_n 3, 1) := by decide +kernel
theorem dJ5_charAt_5068e_10 : decode cJ5_charAt_5068e 10 = .ok (.aload_n 0, 1) := by decide +kernel
theorem dJ5_charAt_5068e_11 : decode cJ5_charAt_5068e 11 = .ok (.getfield 79, 3) := by decide +kernel
theorem dJ5_charAt_5068e_14 : decode cJ5_charAt_5068e 14 = .ok (.aload_n 3, 1) := by decide +kernel
theorem dJ5_charAt_5068e_15 : decode cJ5_charAt_5068e 15 = .ok (.arraylength, 1) := by decide +kernel
theorem dJ5_charAt_5068e_16 : decode cJ5_charAt_5068e 16 = .ok (.iload_n 2, 1) := by decide +kernel
theorem dJ5_charAt_5068e_17 : decode cJ5_charAt_5068e 17 = .ok (.ishr, 1) := by decide +kernel
theorem dJ5_charAt_5068e_18 : decode cJ5_charAt_5068e 18 = .ok (.invokestatic 138, 3) := by decide +kernel
theorem dJ5_charAt_5068e_21 : decode cJ5_charAt_5068e 21 = .ok (.istore 4, 2) := by decide +kernel
theorem dJ5_charAt_5068e_23 : decode cJ5_charAt_5068e 23 = .ok (.iload_n 1, 1) := by decide +kernel
theorem dJ5_charAt_5068e_24 : decode cJ5_charAt_5068e 24 = .ok (.iload 4, 2) := by decide +kernel
theorem dJ5_charAt_5068e_26 : decode cJ5_charAt_5068e 26 = .ok (.invokestatic 144, 3) := by decide +kernel
theorem dJ5_charAt_5068e_29 : decode cJ5_charAt_5068e 29 = .ok (.iload_n 2, 1) := by decide +kernel
theorem dJ5_charAt_5068e_30 : decode cJ5_charAt_5068e 30 = .ok (.ifCond .ne 12, 3) := by decide +kernel
theorem dJ5_charAt_5068e_33 : decode cJ5_charAt_5068e 33 = .ok (.aload_n 3, 1) := by decide +kernel
theorem dJ5_charAt_5068e_34 : decode cJ5_charAt_5068e 34 = .ok (.iload_n 1, 1) := by decide +kernel
theorem dJ5_charAt_5068e_35 : decode cJ5_charAt_5068e 35 = .ok (.baload, 1) := by decide +kernel
theorem dJ5_charAt_5068e_36 : decode cJ5_charAt_5068e 36 = .ok (.sipush 255, 3) := by decide +kernel
theorem dJ5_charAt_5068e_39 : decode cJ5_charAt_5068e 39 = .ok (.iand, 1) := by decide +kernel
theorem dJ5_charAt_5068e_40 : decode cJ5_charAt_5068e 40 = .ok (.i2c, 1) := by decide +kernel
theorem dJ5_charAt_5068e_41 : decode cJ5_charAt_5068e 41 = .ok (.ireturn, 1) := by decide +kernel
theorem dJ5_charAt_5068e_42 : decode cJ5_charAt_5068e 42 = .ok (.aload_n 3, 1) := by decide +kernel
theorem dJ5_charAt_5068e_43 : decode cJ5_charAt_5068e 43 = .ok (.iload_n 1, 1) := by decide +kernel
theorem dJ5_charAt_5068e_44 : decode cJ5_charAt_5068e 44 = .ok (.invokestatic 148, 3) := by decide +kernel
theorem dJ5_charAt_5068e_47 : decode cJ5_charAt_5068e 47 = .ok (.ireturn, 1) := by decide +kernel
def tab_J5_charAt_5068e : List (Nat × Sem) := [(0, op_al 0 1), (1, op_gf 0 1 4), (4, op_is 2 5), (5, op_al 0 6), (6, op_gf 0 0 9), (9, op_as 3 10), (10, op_al 0 11), (11, op_gf 0 3 14), (14, op_al 3 15), (15, op_alenB 16), (16, op_il 2 17), (17, op_bin (fun x y => x >>> (y &&& 31)) 18), (18, op_mm (fun x y => if y < x then y else x) 21), (21, op_is 4 23), (23, op_il 1 24), (24, op_il 4 26), (26, op_call sp_J0_checkIndex_df160 2 0 29), (29, op_il 2 30), (30, op_if (fun x => ¬ x = 0) 42 33), (33, op_al 3 34), (34, op_il 1 35), (35, op_bld 36), (36, op_ic 255 39), (39, op_bin (fun x y => x &&& y) 40), (40, op_i2c 41), (41, op_cret)]
set_option maxRecDepth 20000 in
theorem tok_J5_charAt_5068e : ∀ q ∈ tab_J5_charAt_5068e, Snd RJ5 cJ5_charAt_5068e 5 2 0 (some .char) q.1 q.2 := by
  unfold tab_J5_charAt_5068e
  refine tcons (ok_aload_n dJ5_charAt_5068e_0 rfl rfl) ?_
  refine tcons (ok_getfield (C := RJ4) (T := TJ4) (n := 4) rfl in_J4 (by decide) w_740 dJ5_charAt_5068e_1 rfl) ?_
  refine tcons (ok_istore_n dJ5_charAt_5068e_4 rfl (by decide) rfl) ?_
  refine tcons (ok_aload_n dJ5_charAt_5068e_5 rfl rfl) ?_
  refine tcons (ok_getfield (C := RJ4) (T := TJ4) (n := 4) rfl in_J4 (by decide) w_739 dJ5_charAt_5068e_6 rfl) ?_
  refine tcons (ok_astore_n dJ5_charAt_5068e_9 rfl (by decide) rfl) ?_
  refine tcons (ok_aload_n dJ5_charAt_5068e_10 rfl rfl) ?_
  refine tcons (ok_getfield (C := RJ4) (T := TJ4) (n := 4) rfl in_J4 (by decide) w_741 dJ5_charAt_5068e_11 rfl) ?_
  refine tcons (ok_aload_n dJ5_charAt_5068e_14 rfl rfl) ?_
  refine tcons (ok_alenB dJ5_charAt_5068e_15 rfl) ?_
  refine tcons (ok_iload_n dJ5_charAt_5068e_16 rfl rfl) ?_
  refine tcons (ok_ishr dJ5_charAt_5068e_17 rfl) ?_
  refine tcons (ok_mmin w_902 w_268 w_32 w_269 (by decide) dJ5_charAt_5068e_18 rfl) ?_
  refine tcons (ok_istore dJ5_charAt_5068e_21 (by decide) rfl) ?_
  refine tcons (ok_iload_n dJ5_charAt_5068e_23 rfl rfl) ?_
  refine tcons (ok_iload dJ5_charAt_5068e_24 rfl) ?_
  refine tcons (ok_invokestatic M_J0_checkIndex_df160 w_903 w_904 w_42 w_905 ⟨by decide, by decide, by decide +kernel⟩ (by decide) (by decide) dJ5_charAt_5068e_26 rfl) ?_
  refine tcons (ok_iload_n dJ5_charAt_5068e_29 rfl rfl) ?_
  refine tcons (ok_if_ne dJ5_charAt_5068e_30 rfl rfl) ?_
  refine tcons (ok_aload_n dJ5_charAt_5068e_33 rfl rfl) ?_
  refine tcons (ok_iload_n dJ5_charAt_5068e_34 rfl rfl) ?_
  refine tcons (ok_bld dJ5_charAt_5068e_35 rfl) ?_
  refine tcons (ok_sipush dJ5_charAt_5068e_36 rfl rfl) ?_
  refine tcons (ok_iand dJ5_charAt_5068e_39 rfl) ?_
  refine tcons (ok_i2c dJ5_charAt_5068e_40 rfl) ?_
  refine tcons (ok_creturn rfl dJ5_charAt_5068e_41) ?_
  exact fun _ h => nomatch h
theorem min_cnt {c n : Nat} (h : c ≤ n) (hn : n < 2 ^ 30) : (if nI n < nI c then nI n else nI c) = nI c := if_neg (nI_nlt h (by omega))
theorem ch_and : ∀ b, b < 128 → (((nI b &&& 255).toUInt32 % 65536).toInt32 = nI b) := by decide
def sp_J5_charAt_5068e : Spc := fun av s N _ => match av with
  | [.inl (.inr (18, 0)), .inl (.inl x)] => ∃ c j b, SBS s c ∧ j < c ∧ x = nI j ∧ b < 128 ∧ s.2.1 19 0 j = nI b ∧ N (some (aI (nI b))) s
  | _ => False
set_option maxRecDepth 20000 in
set_option maxHeartbeats 2000000 in
theorem M_J5_charAt_5068e : AMet yJ5_charAt_5068e cJ5_charAt_5068e 5 (some .char) 2 0 sp_J5_charAt_5068e := by
  refine AMet.mc (own := RJ5) (by decide) rfl [0, 1, 2, 3, 4] rfl tok_J5_charAt_5068e 200 ?_
  intro av s0 N X h
  unfold sp_J5_charAt_5068e at h
  split at h
  rotate_left
  · exact h.elim
  rename_i x
  obtain ⟨c, j, b, hS, hj, rfl, hb, hv, h⟩ := h
  have hS' := of_eq_true hS
  have hL := SBS_L hS
  have hL19 := SBS_L19 hS
  have h13 : s0.1 13 ≤ 34 := by rcases hS'.2.2.2.1 with q | q <;> omega
  have hz : s0.2.1 18 0 1 = 0 := hS'.2.2.2.2.2.1
  have hct : s0.2.1 18 0 3 = nI c := hS'.2.2.2.2.2.2.1
  have hcn : c ≤ s0.1 13 := hS'.2.2.2.2.1
  have hsh : nI (s0.1 13) >>> ((0 : Int32) &&& 31) = nI (s0.1 13) := sb_shr0 _
  have k1 := ch_and b hb
  refine ⟨[], ?_, an⟩
  refine ⟨hL, hL, hL, hL19, by decide, by decide, by decide, Nat.le_of_ble_eq_true rfl, nI_pos' (by omega), ?_, fun q => absurd hz q, fun _ => ⟨hL19, nIb (by omega) (by omega), ?_⟩⟩
  · show nI j < (if nI (s0.1 13) >>> (s0.2.1 18 0 1 &&& 31) < s0.2.1 18 0 3 then nI (s0.1 13) >>> (s0.2.1 18 0 1 &&& 31) else s0.2.1 18 0 3)
    rw [hz, hsh, hct, min_cnt hcn (by omega)]
    exact nI_lt hj (by omega)
  · rw [nI_clamp (by omega), hv]
    show _ ∧ (∃ q, q < 65536 ∧ ((nI b &&& 255).toUInt32 % 65536).toInt32 = nI q) ∧ N (some (aI ((nI b &&& 255).toUInt32 % 65536).toInt32)) s0
    rw [k1]
    exact ⟨by decide, ⟨b, by omega, rfl⟩, h⟩
theorem dJ4_charAt_5068e_0 : decode cJ4_charAt_5068e 0 = .ok (.aload_n 0, 1) := by decide +kernel
theorem dJ4_charAt_5068e_1 : decode cJ4_charAt_5068e 1 = .ok (.iload_n 1, 1) := by decide +kernel
theorem dJ4_charAt_5068e_2 : decode cJ4_charAt_5068e 2 = .ok (.invokespecial 329, 3) := by decide +kernel
theorem dJ4_charAt_5068e_5 : decode cJ4_charAt_5068e 5 = .ok (.ireturn, 1) := by decide +kernel
def tab_J4_charAt_5068e : List (Nat × Sem) := [(0, op_al 0 1), (1, op_il 1 2), (2, op_callU sp_J5_charAt_5068e 2 0 5), (5, op_cret)]
set_option maxRecDepth 20000 in
theorem tok_J4_charAt_5068e : ∀ q ∈ tab_J4_charAt_5068e, Snd RJ4 cJ4_charAt_5068e 2 3 0 (some .char) q.1 q.2 := by
  unfold tab_J4_charAt_5068e
  refine tcons (ok_aload_n dJ4_charAt_5068e_0 rfl rfl) ?_
  refine tcons (ok_iload_n dJ4_charAt_5068e_1 rfl rfl) ?_
  refine tcons (ok_callSU M_J5_charAt_5068e w_899 w_957 w_750 w_900 w_40 w_901 (by decide) (by decide +kernel) (by decide) (by decide) dJ4_charAt_5068e_2 rfl) ?_
  refine tcons (ok_creturn rfl dJ4_charAt_5068e_5) ?_
  exact fun _ h => nomatch h
def sp_J4_charAt_5068e : Spc := fun av s N _ => match av with
  | [.inl (.inr (18, 0)), .inl (.inl x)] => ∃ c j b, SBS s c ∧ j < c ∧ x = nI j ∧ b < 128 ∧ s.2.1 19 0 j = nI b ∧ N (some (aI (nI b))) s
  | _ => False
set_option maxRecDepth 20000 in
set_option maxHeartbeats 2000000 in
theorem M_J4_charAt_5068e : AMet yJ4_charAt_5068e cJ4_charAt_5068e 2 (some .char) 3 0 sp_J4_charAt_5068e := by
  refine AMet.mc (own := RJ4) (by decide) rfl [0, 1] rfl tok_J4_charAt_5068e 200 ?_
  intro av s0 N X h
  unfold sp_J4_charAt_5068e at h
  split at h
  rotate_left
  · exact h.elim
  rename_i x
  obtain ⟨c, j, b, hS, hj, rfl, hb, hv, h⟩ := h
  refine ⟨[], ?_, an⟩
  exact ⟨SBS_L hS, by decide, by decide, c, j, b, hS, hj, rfl, hb, hv, by decide, ⟨b, by omega, rfl⟩, h⟩

