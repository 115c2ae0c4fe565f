/-! text and numbers appended to a builder -/
theorem w_46 : (.initialized "java/lang/Integer" : Cond) ∈ TB := TB_mem (List.mem_of_getElem? (i := 46) (by decide +kernel)) rfl
theorem w_756 : (.methodLink "java/lang/StringBuilder" 29 ⟨"java/lang/AbstractStringBuilder", "append", "(Ljava/lang/String;)Ljava/lang/AbstractStringBuilder;"⟩ : Cond) ∈ TB := TB_mem (List.mem_of_getElem? (i := 756) (by decide +kernel)) rfl
theorem w_757 : (.instanceMethod ⟨"java/lang/AbstractStringBuilder", "append", "(Ljava/lang/String;)Ljava/lang/AbstractStringBuilder;"⟩ : Cond) ∈ TB := TB_mem (List.mem_of_getElem? (i := 757) (by decide +kernel)) rfl
theorem w_758 : (.code yJ5_append_cf1ce cJ5_append_cf1ce 3 (some (.object "java/lang/AbstractStringBuilder")) : Cond) ∈ TB := TB_mem (List.mem_of_getElem? (i := 758) (by decide +kernel)) rfl
theorem w_763 : (.methodLink "java/lang/AbstractStringBuilder" 100 ⟨"java/lang/AbstractStringBuilder", "ensureCapacityInternal", "(I)V"⟩ : Cond) ∈ TB := TB_mem (List.mem_of_getElem? (i := 763) (by decide +kernel)) rfl
theorem w_765 : (.instanceMethod ⟨"java/lang/AbstractStringBuilder", "ensureCapacityInternal", "(I)V"⟩ : Cond) ∈ TB := TB_mem (List.mem_of_getElem? (i := 765) (by decide +kernel)) rfl
theorem w_766 : (.code yJ5_ensureCapacityInternal_d00df cJ5_ensureCapacityInternal_d00df 3 none : Cond) ∈ TB := TB_mem (List.mem_of_getElem? (i := 766) (by decide +kernel)) rfl
theorem w_783 : (.methodLink "java/lang/AbstractStringBuilder" 83 ⟨"java/lang/AbstractStringBuilder", "isLatin1", "()Z"⟩ : Cond) ∈ TB := TB_mem (List.mem_of_getElem? (i := 783) (by decide +kernel)) rfl
theorem w_784 : (.instanceMethod ⟨"java/lang/AbstractStringBuilder", "isLatin1", "()Z"⟩ : Cond) ∈ TB := TB_mem (List.mem_of_getElem? (i := 784) (by decide +kernel)) rfl
theorem w_785 : (.sameMethod "java/lang/AbstractStringBuilder" "java/lang/AbstractStringBuilder" "isLatin1" "()Z" : Cond) ∈ TB := TB_mem (List.mem_of_getElem? (i := 785) (by decide +kernel)) rfl
theorem w_786 : (.selects "java/lang/StringBuilder" ⟨"java/lang/AbstractStringBuilder", "isLatin1", "()Z"⟩ ⟨"java/lang/AbstractStringBuilder", "isLatin1", "()Z"⟩ : Cond) ∈ TB := TB_mem (List.mem_of_getElem? (i := 786) (by decide +kernel)) rfl
theorem w_787 : (.code yJ5_isLatin1_aae02 cJ5_isLatin1_aae02 1 (some .boolean) : Cond) ∈ TB := TB_mem (List.mem_of_getElem? (i := 787) (by decide +kernel)) rfl
theorem w_814 : (.methodLink "java/lang/AbstractStringBuilder" 32 ⟨"java/lang/String", "length", "()I"⟩ : Cond) ∈ TB := TB_mem (List.mem_of_getElem? (i := 814) (by decide +kernel)) rfl
theorem w_815 : (.instanceMethod ⟨"java/lang/String", "length", "()I"⟩ : Cond) ∈ TB := TB_mem (List.mem_of_getElem? (i := 815) (by decide +kernel)) rfl
theorem w_816 : (.selects "java/lang/String" ⟨"java/lang/String", "length", "()I"⟩ ⟨"java/lang/String", "length", "()I"⟩ : Cond) ∈ TB := TB_mem (List.mem_of_getElem? (i := 816) (by decide +kernel)) rfl
theorem w_817 : (.code yJ0_length_8abf5 cJ0_length_8abf5 1 (some .int) : Cond) ∈ TB := TB_mem (List.mem_of_getElem? (i := 817) (by decide +kernel)) rfl
theorem w_823 : (.methodLink "java/lang/AbstractStringBuilder" 208 ⟨"java/lang/AbstractStringBuilder", "putStringAt", "(ILjava/lang/String;)V"⟩ : Cond) ∈ TB := TB_mem (List.mem_of_getElem? (i := 823) (by decide +kernel)) rfl
theorem w_825 : (.instanceMethod ⟨"java/lang/AbstractStringBuilder", "putStringAt", "(ILjava/lang/String;)V"⟩ : Cond) ∈ TB := TB_mem (List.mem_of_getElem? (i := 825) (by decide +kernel)) rfl
theorem w_826 : (.code yJ5_putStringAt_47b60 cJ5_putStringAt_47b60 3 none : Cond) ∈ TB := TB_mem (List.mem_of_getElem? (i := 826) (by decide +kernel)) rfl
theorem w_862 : (.methodLink "java/lang/StringBuilder" 53 ⟨"java/lang/AbstractStringBuilder", "append", "(I)Ljava/lang/AbstractStringBuilder;"⟩ : Cond) ∈ TB := TB_mem (List.mem_of_getElem? (i := 862) (by decide +kernel)) rfl
theorem w_863 : (.instanceMethod ⟨"java/lang/AbstractStringBuilder", "append", "(I)Ljava/lang/AbstractStringBuilder;"⟩ : Cond) ∈ TB := TB_mem (List.mem_of_getElem? (i := 863) (by decide +kernel)) rfl
theorem w_864 : (.code yJ5_append_c97b9 cJ5_append_c97b9 4 (some (.object "java/lang/AbstractStringBuilder")) : Cond) ∈ TB := TB_mem (List.mem_of_getElem? (i := 864) (by decide +kernel)) rfl
theorem w_865 : (.methodLink "java/lang/AbstractStringBuilder" 245 ⟨"java/lang/Integer", "stringSize", "(I)I"⟩ : Cond) ∈ TB := TB_mem (List.mem_of_getElem? (i := 865) (by decide +kernel)) rfl
theorem w_866 : (.static ⟨"java/lang/Integer", "stringSize", "(I)I"⟩ : Cond) ∈ TB := TB_mem (List.mem_of_getElem? (i := 866) (by decide +kernel)) rfl
theorem w_867 : (.code yJ6_stringSize_0f7a4 cJ6_stringSize_0f7a4 4 (some .int) : Cond) ∈ TB := TB_mem (List.mem_of_getElem? (i := 867) (by decide +kernel)) rfl
theorem w_868 : (.methodLink "java/lang/AbstractStringBuilder" 248 ⟨"java/lang/Integer", "getChars", "(II[B)I"⟩ : Cond) ∈ TB := TB_mem (List.mem_of_getElem? (i := 868) (by decide +kernel)) rfl
theorem w_869 : (.static ⟨"java/lang/Integer", "getChars", "(II[B)I"⟩ : Cond) ∈ TB := TB_mem (List.mem_of_getElem? (i := 869) (by decide +kernel)) rfl
theorem w_870 : (.code yJ6_getChars_ba4f3 cJ6_getChars_ba4f3 7 (some .int) : Cond) ∈ TB := TB_mem (List.mem_of_getElem? (i := 870) (by decide +kernel)) rfl
theorem w_948 : (.sameMethod "java/lang/AbstractStringBuilder" "java/lang/AbstractStringBuilder" "append" "(Ljava/lang/String;)Ljava/lang/AbstractStringBuilder;" : Cond) ∈ TB := TB_mem (List.mem_of_getElem? (i := 948) (by decide +kernel)) rfl
theorem w_950 : (.sameMethod "java/lang/AbstractStringBuilder" "java/lang/AbstractStringBuilder" "ensureCapacityInternal" "(I)V" : Cond) ∈ TB := TB_mem (List.mem_of_getElem? (i := 950) (by decide +kernel)) rfl
theorem w_952 : (.sameMethod "java/lang/AbstractStringBuilder" "java/lang/AbstractStringBuilder" "putStringAt" "(ILjava/lang/String;)V" : Cond) ∈ TB := TB_mem (List.mem_of_getElem? (i := 952) (by decide +kernel)) rfl
theorem w_955 : (.sameMethod "java/lang/AbstractStringBuilder" "java/lang/AbstractStringBuilder" "append" "(I)Ljava/lang/AbstractStringBuilder;" : Cond) ∈ TB := TB_mem (List.mem_of_getElem? (i := 955) (by decide +kernel)) rfl
theorem cpT_1 {s : Sg} {i dp n : Nat} : (cpT s i dp n).1 = s.1 := rfl
theorem cpT_o {s : Sg} {i dp n a b c : Nat} (h : ¬ a = 19) : (cpT s i dp n).2.1 a b c = s.2.1 a b c := if_neg fun hc => h hc.1
theorem cpT_19 {s : Sg} {i dp n c : Nat} : (cpT s i dp n).2.1 19 0 c = if dp ≤ c ∧ c < dp + n then litC i (0 + (c - dp)) else s.2.1 19 0 c := by
  show (if (19 : Nat) = 19 ∧ (0 : Nat) = 0 then va_cpy (litC i) (s.2.1 19 0) 0 dp n c else s.2.1 19 0 c) = _
  rw [if_pos ⟨rfl, rfl⟩]
  rfl
/-- the builder's count -/
def setN (s : Sg) (c : Nat) : Sg := stS s 18 0 3 (nI c)
theorem setN_o {s : Sg} {x a b c : Nat} (h : ¬ (a = 18 ∧ b = 0 ∧ c = 3)) : (setN s x).2.1 a b c = s.2.1 a b c := by
  show (stS s 18 0 3 (nI x)).2.1 a b c = _
  rw [stS_get, if_neg h]
theorem setN_c {s : Sg} {x : Nat} : (setN s x).2.1 18 0 3 = nI x := by
  show (stS s 18 0 3 (nI x)).2.1 18 0 3 = _
  rw [stS_get, if_pos ⟨rfl, rfl, rfl⟩]
theorem litN_9 {i : Nat} (hi : i < 3) : litN i ≤ 9 := by
  have : i = 0 ∨ i = 1 ∨ i = 2 := by omega
  rcases this with rfl | rfl | rfl <;> decide
theorem SBS_app {s : Sg} {c i : Nat} (hi : i < 3) (h : SBS s c) (hc : c + litN i ≤ s.1 13) : SBS (setN (cpT s i c (litN i)) (c + litN i)) (c + litN i) := by
  have h' := of_eq_true h
  refine eq_true ⟨h'.1, h'.2.1, h'.2.2.1, h'.2.2.2.1, hc, ?_, setN_c, fun j => ?_⟩
  · rw [setN_o (by decide), cpT_o (by decide)]; exact h'.2.2.2.2.2.1
  · rw [setN_o (by omega), cpT_19]
    by_cases hj : c ≤ j ∧ j < c + litN i
    · rw [if_pos hj]; exact lit_fit i hi _ (by omega)
    · rw [if_neg hj]; exact h'.2.2.2.2.2.2.2 j
theorem eqB_app {s : Sg} {c i : Nat} : eqB s (setN (cpT s i c (litN i)) (c + litN i)) c := eq_true ⟨rfl, fun _ _ _ => rfl, fun t i j h h' _ => by rw [setN_o (by omega), cpT_o h'], fun j hj => by rw [setN_o (by omega), cpT_19, if_neg (by omega)]⟩
theorem app_c {s : Sg} {c i j : Nat} (hj : j < litN i) : (setN (cpT s i c (litN i)) (c + litN i)).2.1 19 0 (c + j) = litC i j := by
  rw [setN_o (by omega), cpT_19, if_pos (by omega), show 0 + (c + j - c) = j by omega]
theorem dJ5_append_cf1ce_0 : decode cJ5_append_cf1ce 0 = .ok (.aload_n 1, 1) := by decide +kernel
theorem dJ5_append_cf1ce_1 : decode cJ5_append_cf1ce 1 = .ok (.ifnonnull 8, 3) := by decide +kernel
theorem dJ5_append_cf1ce_4 : decode cJ5_append_cf1ce 4 = .ok (.aload_n 0, 1) := by decide +kernel
theorem dJ5_append_cf1ce_5 : decode cJ5_append_cf1ce 5 = .ok (.invokevirtual 204, 3) := by decide +kernel
theorem dJ5_append_cf1ce_8 : decode cJ5_append_cf1ce 8 = .ok (.areturn, 1) := by decide +kernel
theorem dJ5_append_cf1ce_9 : decode cJ5_append_cf1ce 9 = .ok (.aload_n 1, 1) := by decide +kernel
theorem dJ5_append_cf1ce_10 : decode cJ5_append_cf1ce 10 = .ok (.invokevirtual 32, 3) := by decide +kernel
theorem dJ5_append_cf1ce_13 : decode cJ5_append_cf1ce 13 = .ok (.istore_n 2, 1) := by decide +kernel
theorem dJ5_append_cf1ce_14 : decode cJ5_append_cf1ce 14 = .ok (.aload_n 0, 1) := by decide +kernel
theorem dJ5_append_cf1ce_15 : decode cJ5_append_cf1ce 15 = .ok (.aload_n 0, 1) := by decide +kernel
theorem dJ5_append_cf1ce_16 : decode cJ5_append_cf1ce 16 = .ok (.getfield 79, 3) := by decide +kernel
theorem dJ5_append_cf1ce_19 : decode cJ5_append_cf1ce 19 = .ok (.iload_n 2, 1) := by decide +kernel
theorem dJ5_append_cf1ce_20 : decode cJ5_append_cf1ce 20 = .ok (.iadd, 1) := by decide +kernel
theorem dJ5_append_cf1ce_21 : decode cJ5_append_cf1ce 21 = .ok (.invokevirtual 100, 3) := by decide +kernel
theorem dJ5_append_cf1ce_24 : decode cJ5_append_cf1ce 24 = .ok (.aload_n 0, 1) := by decide +kernel
theorem dJ5_append_cf1ce_25 : decode cJ5_append_cf1ce 25 = .ok (.aload_n 0, 1) := by decide +kernel
theorem dJ5_append_cf1ce_26 : decode cJ5_append_cf1ce 26 = .ok (.getfield 79, 3) := by decide +kernel
theorem dJ5_append_cf1ce_29 : decode cJ5_append_cf1ce 29 = .ok (.aload_n 1, 1) := by decide +kernel
theorem dJ5_append_cf1ce_30 : decode cJ5_append_cf1ce 30 = .ok (.invokevirtual 208, 3) := by decide +kernel
theorem dJ5_append_cf1ce_33 : decode cJ5_append_cf1ce 33 = .ok (.aload_n 0, 1) := by decide +kernel
theorem dJ5_append_cf1ce_34 : decode cJ5_append_cf1ce 34 = .ok (.dup, 1) := by decide +kernel
theorem dJ5_append_cf1ce_35 : decode cJ5_append_cf1ce 35 = .ok (.getfield 79, 3) := by decide +kernel
theorem dJ5_append_cf1ce_38 : decode cJ5_append_cf1ce 38 = .ok (.iload_n 2, 1) := by decide +kernel
theorem dJ5_append_cf1ce_39 : decode cJ5_append_cf1ce 39 = .ok (.iadd, 1) := by decide +kernel
theorem dJ5_append_cf1ce_40 : decode cJ5_append_cf1ce 40 = .ok (.putfield 79, 3) := by decide +kernel
theorem dJ5_append_cf1ce_43 : decode cJ5_append_cf1ce 43 = .ok (.aload_n 0, 1) := by decide +kernel
theorem dJ5_append_cf1ce_44 : decode cJ5_append_cf1ce 44 = .ok (.areturn, 1) := by decide +kernel
def tab_J5_append_cf1ce : List (Nat × Sem) := [(0, op_al 1 1), (1, op_nn 9), (9, op_al 1 10), (10, op_callT sp_J0_length_8abf5 1 0 13), (13, op_is 2 14), (14, op_al 0 15), (15, op_al 0 16), (16, op_gf 0 3 19), (19, op_il 2 20), (20, op_bin (fun x y => x + y) 21), (21, op_callGU sp_J5_ensureCapacityInternal_d00df 2 2 24), (24, op_al 0 25), (25, op_al 0 26), (26, op_gf 0 3 29), (29, op_al 1 30), (30, op_callU sp_J5_putStringAt_47b60 3 0 33), (33, op_al 0 34), (34, op_dup 35), (35, op_gf 0 3 38), (38, op_il 2 39), (39, op_bin (fun x y => x + y) 40), (40, op_pf 0 3 43), (43, op_al 0 44), (44, op_aret)]
set_option maxRecDepth 20000 in
theorem tok_J5_append_cf1ce : ∀ q ∈ tab_J5_append_cf1ce, GSnd RJ5 cJ5_append_cf1ce 3 4 2 (some (.object "java/lang/AbstractStringBuilder")) q.1 q.2 := by
  unfold tab_J5_append_cf1ce
  refine gcons (snd_g (ok_aload_n dJ5_append_cf1ce_0 rfl rfl)) ?_
  refine gcons (snd_g (ok_nn dJ5_append_cf1ce_1 rfl)) ?_
  refine gcons (snd_g (ok_aload_n dJ5_append_cf1ce_9 rfl rfl)) ?_
  refine gcons (snd_g (ok_callT M_J0_length_8abf5 w_814 w_815 w_816 w_42 w_817 ⟨rfl, by decide, by decide, by decide +kernel⟩ (by decide) (by decide) dJ5_append_cf1ce_10 rfl)) ?_
  refine gcons (snd_g (ok_istore_n dJ5_append_cf1ce_13 rfl (by decide) rfl)) ?_
  refine gcons (snd_g (ok_aload_n dJ5_append_cf1ce_14 rfl rfl)) ?_
  refine gcons (snd_g (ok_aload_n dJ5_append_cf1ce_15 rfl rfl)) ?_
  refine gcons (snd_g (ok_getfield (C := RJ4) (T := TJ4) (n := 4) rfl in_J4 (by decide) w_741 dJ5_append_cf1ce_16 rfl)) ?_
  refine gcons (snd_g (ok_iload_n dJ5_append_cf1ce_19 rfl rfl)) ?_
  refine gcons (snd_g (ok_iadd dJ5_append_cf1ce_20 rfl)) ?_
  refine gcons (ok_callGU M_J5_ensureCapacityInternal_d00df w_763 w_950 (fun s a h => h _ xs_J5_ensureCapacityInternal_d00df) w_765 w_40 w_766 rfl (by decide +kernel) (by decide) (by decide) dJ5_append_cf1ce_21 rfl) ?_
  refine gcons (snd_g (ok_aload_n dJ5_append_cf1ce_24 rfl rfl)) ?_
  refine gcons (snd_g (ok_aload_n dJ5_append_cf1ce_25 rfl rfl)) ?_
  refine gcons (snd_g (ok_getfield (C := RJ4) (T := TJ4) (n := 4) rfl in_J4 (by decide) w_741 dJ5_append_cf1ce_26 rfl)) ?_
  refine gcons (snd_g (ok_aload_n dJ5_append_cf1ce_29 rfl rfl)) ?_
  refine gcons (snd_g (ok_callU M_J5_putStringAt_47b60 w_823 w_952 (fun s a h => h _ xs_J5_putStringAt_47b60) w_825 w_40 w_826 rfl (by decide +kernel) (by decide) (by decide) dJ5_append_cf1ce_30 rfl)) ?_
  refine gcons (snd_g (ok_aload_n dJ5_append_cf1ce_33 rfl rfl)) ?_
  refine gcons (snd_g (ok_dup dJ5_append_cf1ce_34 rfl)) ?_
  refine gcons (snd_g (ok_getfield (C := RJ4) (T := TJ4) (n := 4) rfl in_J4 (by decide) w_741 dJ5_append_cf1ce_35 rfl)) ?_
  refine gcons (snd_g (ok_iload_n dJ5_append_cf1ce_38 rfl rfl)) ?_
  refine gcons (snd_g (ok_iadd dJ5_append_cf1ce_39 rfl)) ?_
  refine gcons (snd_g (ok_putfield (C := RJ4) (T := TJ4) (n := 4) tyJ4 .int rfl in_J4 tyJ4_ok nmJ4 (by decide) rfl w_741 rfl (Or.inl rfl) dJ5_append_cf1ce_40 rfl)) ?_
  refine gcons (snd_g (ok_aload_n dJ5_append_cf1ce_43 rfl rfl)) ?_
  refine gcons (snd_g (ok_areturn rfl dJ5_append_cf1ce_44)) ?_
  exact fun _ h => nomatch h
def sp_J5_append_cf1ce : Spc := fun av s N _ => match av with
  | [.inl (.inr (18, 0)), .inl (.inr (70, i))] => ∃ c, i < 3 ∧ SBS s c ∧ c + litN i ≤ 34 ∧ ∀ s', SBS s' (c + litN i) → eqB s s' c → (∀ j, j < litN i → s'.2.1 19 0 (c + j) = litC i j) → N (some (aR 18 0)) s'
  | _ => False
set_option maxRecDepth 20000 in
set_option maxHeartbeats 2000000 in
theorem M_J5_append_cf1ce : GMet yJ5_append_cf1ce cJ5_append_cf1ce 3 (some (.object "java/lang/AbstractStringBuilder")) 4 2 sp_J5_append_cf1ce := by
  refine GMet.mk (own := RJ5) (by decide) rfl [0, 1, 2] rfl tok_J5_append_cf1ce 200 ?_
  intro av s0 N X h
  unfold sp_J5_append_cf1ce at h
  split at h
  rotate_left
  · exact h.elim
  rename_i i
  obtain ⟨c, hi, hS, hc, h⟩ := h
  have h9 := litN_9 hi
  have hS' := of_eq_true hS
  have hL := SBS_L hS
  have hct : s0.2.1 18 0 3 = nI c := hS'.2.2.2.2.2.2.1
  have hx0 : s0.2.1 18 0 3 + nI (litN i) = nI (c + litN i) := by rw [hct]; exact nI_add _ _
  refine ⟨hi, by decide, Nat.le_of_ble_eq_true rfl, hi, hL, hL, by decide, Nat.le_of_ble_eq_true rfl, trivial, hL, trivial, c, c + litN i, hS, hx0, by omega, hc, fun s1 hS1 h13 hE1 => ?_⟩
  have hS1' := of_eq_true hS1
  have hL1 := SBS_L hS1
  have hct1 : s1.2.1 18 0 3 = nI c := hS1'.2.2.2.2.2.2.1
  have h34 : s1.1 13 ≤ 34 := by rcases hS1'.2.2.2.1 with q | q <;> omega
  refine ⟨hL1, hL1, by decide, Nat.le_of_ble_eq_true rfl, c, hi, hL1, hS1'.2.2.2.2.2.1, hct1, h13, h34, SBS_L19 hS1, ?_⟩
  have hx : (cpT s1 i c (litN i)).2.1 18 0 3 + nI (litN i) = nI (c + litN i) := by rw [cpT_o (by decide), hct1]; exact nI_add _ _
  have hN := h _ (SBS_app hi hS1 h13) (eqB_tr (Nat.le_refl _) hE1 eqB_app) (fun j hj => app_c hj)
  unfold setN at hN
  rw [← hx] at hN
  exact ⟨hL1, hL1, by decide, hN⟩
theorem dJ4_append_15ec4_0 : decode cJ4_append_15ec4 0 = .ok (.aload_n 0, 1) := by decide +kernel
theorem dJ4_append_15ec4_1 : decode cJ4_append_15ec4 1 = .ok (.aload_n 1, 1) := by decide +kernel
theorem dJ4_append_15ec4_2 : decode cJ4_append_15ec4 2 = .ok (.invokespecial 29, 3) := by decide +kernel
theorem dJ4_append_15ec4_5 : decode cJ4_append_15ec4 5 = .ok (.pop, 1) := by decide +kernel
theorem dJ4_append_15ec4_6 : decode cJ4_append_15ec4 6 = .ok (.aload_n 0, 1) := by decide +kernel
theorem dJ4_append_15ec4_7 : decode cJ4_append_15ec4 7 = .ok (.areturn, 1) := by decide +kernel
def tab_J4_append_15ec4 : List (Nat × Sem) := [(0, op_al 0 1), (1, op_al 1 2), (2, op_callGU sp_J5_append_cf1ce 2 2 5), (5, op_pop 6), (6, op_al 0 7), (7, op_aret)]
set_option maxRecDepth 20000 in
theorem tok_J4_append_15ec4 : ∀ q ∈ tab_J4_append_15ec4, GSnd RJ4 cJ4_append_15ec4 2 5 2 (some (.object "java/lang/StringBuilder")) q.1 q.2 := by
  unfold tab_J4_append_15ec4
  refine gcons (snd_g (ok_aload_n dJ4_append_15ec4_0 rfl rfl)) ?_
  refine gcons (snd_g (ok_aload_n dJ4_append_15ec4_1 rfl rfl)) ?_
  refine gcons (ok_callGSU M_J5_append_cf1ce w_756 w_948 w_750 w_757 w_40 w_758 (by decide) (by decide +kernel) (by decide) (by decide) dJ4_append_15ec4_2 rfl) ?_
  refine gcons (snd_g (ok_pop dJ4_append_15ec4_5 rfl)) ?_
  refine gcons (snd_g (ok_aload_n dJ4_append_15ec4_6 rfl rfl)) ?_
  refine gcons (snd_g (ok_areturn rfl dJ4_append_15ec4_7)) ?_
  exact fun _ h => nomatch h
def sp_J4_append_15ec4 : Spc := fun av s N _ => match av with
  | [.inl (.inr (18, 0)), .inl (.inr (70, i))] => ∃ c, i < 3 ∧ SBS s c ∧ c + litN i ≤ 34 ∧ ∀ s', SBS s' (c + litN i) → eqB s s' c → (∀ j, j < litN i → s'.2.1 19 0 (c + j) = litC i j) → N (some (aR 18 0)) s'
  | _ => False
set_option maxRecDepth 20000 in
set_option maxHeartbeats 2000000 in
theorem M_J4_append_15ec4 : GMet yJ4_append_15ec4 cJ4_append_15ec4 2 (some (.object "java/lang/StringBuilder")) 5 2 sp_J4_append_15ec4 := by
  refine GMet.mk (own := RJ4) (by decide) rfl [0, 1] rfl tok_J4_append_15ec4 200 ?_
  intro av s0 N X h
  unfold sp_J4_append_15ec4 at h
  split at h
  rotate_left
  · exact h.elim
  rename_i i
  obtain ⟨c, hi, hS, hc, h⟩ := h
  have hL := SBS_L hS
  exact ⟨hL, by decide, Nat.le_of_ble_eq_true rfl, trivial, hL, trivial, c, hi, hS, hc, fun s1 hS1 hE1 hB1 => ⟨by decide, h s1 hS1 hE1 hB1⟩⟩
theorem putD_1 {s : Sg} {c n : Nat} : (putD s c n).1 = s.1 := by
  unfold putD
  split <;> rfl
theorem putD_o {s : Sg} {c n a b j : Nat} (h : ¬ a = 19) : (putD s c n).2.1 a b j = s.2.1 a b j := by
  unfold putD
  split
  · rw [stS_get, if_neg fun hc => h hc.1]
  · rw [stS_get, if_neg fun hc => h hc.1, stS_get, if_neg fun hc => h hc.1]
theorem putD_19 {s : Sg} {c n j : Nat} : (putD s c n).2.1 19 0 j = if j = c then nI (48 + (if n < 10 then n % 10 else n / 10)) else if j = c + 1 ∧ ¬ n < 10 then nI (48 + n % 10) else s.2.1 19 0 j := by
  unfold putD
  by_cases h10 : n < 10
  · rw [if_pos h10, stS_get, if_pos h10]
    by_cases hj : j = c
    · rw [if_pos ⟨rfl, rfl, hj⟩, if_pos hj]
    · rw [if_neg fun hc => hj hc.2.2, if_neg hj, if_neg fun hc => hc.2 h10]
  · rw [if_neg h10, stS_get, stS_get, if_neg h10]
    by_cases hj : j = c
    · rw [if_pos ⟨rfl, rfl, hj⟩, if_pos hj]
    · rw [if_neg fun hc => hj hc.2.2, if_neg hj]
      by_cases h1 : j = c + 1
      · rw [if_pos ⟨rfl, rfl, h1⟩, if_pos ⟨h1, h10⟩]
      · rw [if_neg fun hc => h1 hc.2.2, if_neg fun hc => h1 hc.1]
theorem dg_fit : ∀ d, d < 10 → fits .byte (.int (nI (48 + d))) = true := by decide
theorem SBS_num {s : Sg} {c n : Nat} (hn : n < 100) (h : SBS s c) (hc : c + dgN n ≤ s.1 13) : SBS (setN (putD s c n) (c + dgN n)) (c + dgN n) := by
  have h' := of_eq_true h
  have e1 : (setN (putD s c n) (c + dgN n)).1 = s.1 := putD_1
  refine eq_true ⟨by rw [e1]; exact h'.1, by rw [e1]; exact h'.2.1, by rw [e1]; exact h'.2.2.1, by rw [e1]; exact h'.2.2.2.1, by rw [e1]; exact hc, ?_, setN_c, fun j => ?_⟩
  · rw [setN_o (by decide), putD_o (by decide)]; exact h'.2.2.2.2.2.1
  · rw [setN_o (by omega), putD_19]
    split
    · refine dg_fit _ ?_
      split <;> omega
    · split
      · exact dg_fit _ (by omega)
      · exact h'.2.2.2.2.2.2.2 j
theorem eqB_num {s : Sg} {c n : Nat} : eqB s (setN (putD s c n) (c + dgN n)) c := eq_true ⟨by show (putD s c n).2.2 = _; unfold putD; split <;> rfl, fun k _ _ => congrFun (putD_1 (s := s) (c := c) (n := n)) k, fun t i j h h' _ => by rw [setN_o (by omega), putD_o h'], fun j hj => by rw [setN_o (by omega), putD_19, if_neg (by omega), if_neg (by omega)]⟩
/-- a number's digits -/
def dgD (n j : Nat) : Nat := if j = 0 then 48 + (if n < 10 then n % 10 else n / 10) else 48 + n % 10
theorem num_c {s : Sg} {c n j : Nat} (hj : j < dgN n) : (setN (putD s c n) (c + dgN n)).2.1 19 0 (c + j) = nI (dgD n j) := by
  rw [setN_o (by omega), putD_19]
  unfold dgD
  by_cases h0 : j = 0
  · rw [if_pos (by omega), if_pos h0]
  · unfold dgN at hj
    rw [if_neg (by omega), if_neg h0]
    by_cases h10 : n < 10
    · rw [if_pos h10] at hj; omega
    · rw [if_neg h10] at hj
      rw [if_pos (by omega)]
theorem dJ5_append_c97b9_0 : decode cJ5_append_c97b9 0 = .ok (.aload_n 0, 1) := by decide +kernel
theorem dJ5_append_c97b9_1 : decode cJ5_append_c97b9 1 = .ok (.getfield 79, 3) := by decide +kernel
theorem dJ5_append_c97b9_4 : decode cJ5_append_c97b9 4 = .ok (.istore_n 2, 1) := by decide +kernel
theorem dJ5_append_c97b9_5 : decode cJ5_append_c97b9 5 = .ok (.iload_n 2, 1) := by decide +kernel
theorem dJ5_append_c97b9_6 : decode cJ5_append_c97b9 6 = .ok (.iload_n 1, 1) := by decide +kernel
theorem dJ5_append_c97b9_7 : decode cJ5_append_c97b9 7 = .ok (.invokestatic 245, 3) := by decide +kernel
theorem dJ5_append_c97b9_10 : decode cJ5_append_c97b9 10 = .ok (.iadd, 1) := by decide +kernel
theorem dJ5_append_c97b9_11 : decode cJ5_append_c97b9 11 = .ok (.istore_n 3, 1) := by decide +kernel
theorem dJ5_append_c97b9_12 : decode cJ5_append_c97b9 12 = .ok (.aload_n 0, 1) := by decide +kernel
theorem dJ5_append_c97b9_13 : decode cJ5_append_c97b9 13 = .ok (.iload_n 3, 1) := by decide +kernel
theorem dJ5_append_c97b9_14 : decode cJ5_append_c97b9 14 = .ok (.invokevirtual 100, 3) := by decide +kernel
theorem dJ5_append_c97b9_17 : decode cJ5_append_c97b9 17 = .ok (.aload_n 0, 1) := by decide +kernel
theorem dJ5_append_c97b9_18 : decode cJ5_append_c97b9 18 = .ok (.invokevirtual 83, 3) := by decide +kernel
theorem dJ5_append_c97b9_21 : decode cJ5_append_c97b9 21 = .ok (.ifCond .eq 16, 3) := by decide +kernel
theorem dJ5_append_c97b9_24 : decode cJ5_append_c97b9 24 = .ok (.iload_n 1, 1) := by decide +kernel
theorem dJ5_append_c97b9_25 : decode cJ5_append_c97b9 25 = .ok (.iload_n 3, 1) := by decide +kernel
theorem dJ5_append_c97b9_26 : decode cJ5_append_c97b9 26 = .ok (.aload_n 0, 1) := by decide +kernel
theorem dJ5_append_c97b9_27 : decode cJ5_append_c97b9 27 = .ok (.getfield 15, 3) := by decide +kernel
theorem dJ5_append_c97b9_30 : decode cJ5_append_c97b9 30 = .ok (.invokestatic 248, 3) := by decide +kernel
theorem dJ5_append_c97b9_33 : decode cJ5_append_c97b9 33 = .ok (.pop, 1) := by decide +kernel
theorem dJ5_append_c97b9_34 : decode cJ5_append_c97b9 34 = .ok (.goto 14, 3) := by decide +kernel
theorem dJ5_append_c97b9_37 : decode cJ5_append_c97b9 37 = .ok (.iload_n 1, 1) := by decide +kernel
theorem dJ5_append_c97b9_38 : decode cJ5_append_c97b9 38 = .ok (.iload_n 2, 1) := by decide +kernel
theorem dJ5_append_c97b9_39 : decode cJ5_append_c97b9 39 = .ok (.iload_n 3, 1) := by decide +kernel
theorem dJ5_append_c97b9_40 : decode cJ5_append_c97b9 40 = .ok (.aload_n 0, 1) := by decide +kernel
theorem dJ5_append_c97b9_41 : decode cJ5_append_c97b9 41 = .ok (.getfield 15, 3) := by decide +kernel
theorem dJ5_append_c97b9_44 : decode cJ5_append_c97b9 44 = .ok (.invokestatic 251, 3) := by decide +kernel
theorem dJ5_append_c97b9_47 : decode cJ5_append_c97b9 47 = .ok (.pop, 1) := by decide +kernel
theorem dJ5_append_c97b9_48 : decode cJ5_append_c97b9 48 = .ok (.aload_n 0, 1) := by decide +kernel
theorem dJ5_append_c97b9_49 : decode cJ5_append_c97b9 49 = .ok (.iload_n 3, 1) := by decide +kernel
theorem dJ5_append_c97b9_50 : decode cJ5_append_c97b9 50 = .ok (.putfield 79, 3) := by decide +kernel
theorem dJ5_append_c97b9_53 : decode cJ5_append_c97b9 53 = .ok (.aload_n 0, 1) := by decide +kernel
theorem dJ5_append_c97b9_54 : decode cJ5_append_c97b9 54 = .ok (.areturn, 1) := by decide +kernel
def tab_J5_append_c97b9 : List (Nat × Sem) := [(0, op_al 0 1), (1, op_gf 0 3 4), (4, op_is 2 5), (5, op_il 2 6), (6, op_il 1 7), (7, op_call sp_J6_stringSize_0f7a4 1 0 10), (10, op_bin (fun x y => x + y) 11), (11, op_is 3 12), (12, op_al 0 13), (13, op_il 3 14), (14, op_callGU sp_J5_ensureCapacityInternal_d00df 2 2 17), (17, op_al 0 18), (18, op_callU sp_J5_isLatin1_aae02 1 0 21), (21, op_if (fun x => x = 0) 37 24), (24, op_il 1 25), (25, op_il 3 26), (26, op_al 0 27), (27, op_gf 0 0 30), (30, op_call sp_J6_getChars_ba4f3 3 0 33), (33, op_pop 34), (34, op_go 48), (48, op_al 0 49), (49, op_il 3 50), (50, op_pf 0 3 53), (53, op_al 0 54), (54, op_aret)]
set_option maxRecDepth 20000 in
theorem tok_J5_append_c97b9 : ∀ q ∈ tab_J5_append_c97b9, GSnd RJ5 cJ5_append_c97b9 4 4 2 (some (.object "java/lang/AbstractStringBuilder")) q.1 q.2 := by
  unfold tab_J5_append_c97b9
  refine gcons (snd_g (ok_aload_n dJ5_append_c97b9_0 rfl rfl)) ?_
  refine gcons (snd_g (ok_getfield (C := RJ4) (T := TJ4) (n := 4) rfl in_J4 (by decide) w_741 dJ5_append_c97b9_1 rfl)) ?_
  refine gcons (snd_g (ok_istore_n dJ5_append_c97b9_4 rfl (by decide) rfl)) ?_
  refine gcons (snd_g (ok_iload_n dJ5_append_c97b9_5 rfl rfl)) ?_
  refine gcons (snd_g (ok_iload_n dJ5_append_c97b9_6 rfl rfl)) ?_
  refine gcons (snd_g (ok_invokestatic M_J6_stringSize_0f7a4 w_865 w_866 w_46 w_867 ⟨by decide, by decide, by decide +kernel⟩ (by decide) (by decide) dJ5_append_c97b9_7 rfl)) ?_
  refine gcons (snd_g (ok_iadd dJ5_append_c97b9_10 rfl)) ?_
  refine gcons (snd_g (ok_istore_n dJ5_append_c97b9_11 rfl (by decide) rfl)) ?_
  refine gcons (snd_g (ok_aload_n dJ5_append_c97b9_12 rfl rfl)) ?_
  refine gcons (snd_g (ok_iload_n dJ5_append_c97b9_13 rfl rfl)) ?_
  refine gcons (ok_callGU M_J5_ensureCapacityInternal_d00df w_763 w_950 (fun s a h => h _ xs_J5_ensureCapacityInternal_d00df) w_765 w_40 w_766 rfl (by decide +kernel) (by decide) (by decide) dJ5_append_c97b9_14 rfl) ?_
  refine gcons (snd_g (ok_aload_n dJ5_append_c97b9_17 rfl rfl)) ?_
  refine gcons (snd_g (ok_callU M_J5_isLatin1_aae02 w_783 w_785 (fun s a h => h _ w_786) w_784 w_40 w_787 rfl (by decide +kernel) (by decide) (by decide) dJ5_append_c97b9_18 rfl)) ?_
  refine gcons (snd_g (ok_if_eq dJ5_append_c97b9_21 rfl rfl)) ?_
  refine gcons (snd_g (ok_iload_n dJ5_append_c97b9_24 rfl rfl)) ?_
  refine gcons (snd_g (ok_iload_n dJ5_append_c97b9_25 rfl rfl)) ?_
  refine gcons (snd_g (ok_aload_n dJ5_append_c97b9_26 rfl rfl)) ?_
  refine gcons (snd_g (ok_getfield (C := RJ4) (T := TJ4) (n := 4) rfl in_J4 (by decide) w_739 dJ5_append_c97b9_27 rfl)) ?_
  refine gcons (snd_g (ok_invokestatic M_J6_getChars_ba4f3 w_868 w_869 w_46 w_870 ⟨by decide, by decide, by decide +kernel⟩ (by decide) (by decide) dJ5_append_c97b9_30 rfl)) ?_
  refine gcons (snd_g (ok_pop dJ5_append_c97b9_33 rfl)) ?_
  refine gcons (snd_g (ok_goto dJ5_append_c97b9_34 rfl)) ?_
  refine gcons (snd_g (ok_aload_n dJ5_append_c97b9_48 rfl rfl)) ?_
  refine gcons (snd_g (ok_iload_n dJ5_append_c97b9_49 rfl rfl)) ?_
  refine gcons (snd_g (ok_putfield (C := RJ4) (T := TJ4) (n := 4) tyJ4 .int rfl in_J4 tyJ4_ok nmJ4 (by decide) rfl w_741 rfl (Or.inl rfl) dJ5_append_c97b9_50 rfl)) ?_
  refine gcons (snd_g (ok_aload_n dJ5_append_c97b9_53 rfl rfl)) ?_
  refine gcons (snd_g (ok_areturn rfl dJ5_append_c97b9_54)) ?_
  exact fun _ h => nomatch h
def sp_J5_append_c97b9 : Spc := fun av s N _ => match av with
  | [.inl (.inr (18, 0)), .inl (.inl v)] => ∃ n c, n < 100 ∧ v = nI n ∧ SBS s c ∧ c + dgN n ≤ 34 ∧ ∀ s', SBS s' (c + dgN n) → eqB s s' c → (∀ j, j < dgN n → s'.2.1 19 0 (c + j) = nI (dgD n j)) → N (some (aR 18 0)) s'
  | _ => False
set_option maxRecDepth 20000 in
set_option maxHeartbeats 2000000 in
theorem M_J5_append_c97b9 : GMet yJ5_append_c97b9 cJ5_append_c97b9 4 (some (.object "java/lang/AbstractStringBuilder")) 4 2 sp_J5_append_c97b9 := by
  refine GMet.mk (own := RJ5) (by decide) rfl [0, 1, 2, 3] rfl tok_J5_append_c97b9 200 ?_
  intro av s0 N X h
  unfold sp_J5_append_c97b9 at h
  split at h
  rotate_left
  · exact h.elim
  rename_i v
  obtain ⟨n, c, hn, rfl, hS, hc, h⟩ := h
  have hS' := of_eq_true hS
  have hL := SBS_L hS
  have hct : s0.2.1 18 0 3 = nI c := hS'.2.2.2.2.2.2.1
  have hx0 : s0.2.1 18 0 3 + nI (dgN n) = nI (c + dgN n) := by rw [hct]; exact nI_add _ _
  refine ⟨hL, by decide, Nat.le_of_ble_eq_true rfl, n, hn, rfl, hL, by decide, Nat.le_of_ble_eq_true rfl, trivial, hL, c, c + dgN n, hS, hx0, by omega, hc, fun s1 hS1 h13 hE1 => ?_⟩
  have hS1' := of_eq_true hS1
  have hL1 := SBS_L hS1
  have h34 : s1.1 13 ≤ 34 := by rcases hS1'.2.2.2.1 with q | q <;> omega
  refine ⟨hL1, by decide, Nat.le_of_ble_eq_true rfl, hL1, hS1'.2.2.2.2.2.1, fun q => absurd q (by decide), fun _ => ⟨hL1, by decide, Nat.le_of_ble_eq_true rfl, n, c, hn, rfl, hx0, h13, h34, SBS_L19 hS1, ?_⟩⟩
  have e1 : (putD s1 c n).1 = s1.1 := putD_1
  have hL2 : Lv (putD s1 c n) 18 0 := by
    show 0 < (putD s1 c n).1 12
    rw [e1]
    exact hL1
  have hN := h _ (SBS_num hn hS1 h13) (eqB_tr (Nat.le_refl _) hE1 eqB_num) (fun j hj => num_c hj)
  unfold setN at hN
  rw [← hx0] at hN
  exact ⟨hL2, by decide, hN⟩
theorem dJ4_append_bf812_0 : decode cJ4_append_bf812 0 = .ok (.aload_n 0, 1) := by decide +kernel
theorem dJ4_append_bf812_1 : decode cJ4_append_bf812 1 = .ok (.iload_n 1, 1) := by decide +kernel
theorem dJ4_append_bf812_2 : decode cJ4_append_bf812 2 = .ok (.invokespecial 53, 3) := by decide +kernel
theorem dJ4_append_bf812_5 : decode cJ4_append_bf812 5 = .ok (.pop, 1) := by decide +kernel
theorem dJ4_append_bf812_6 : decode cJ4_append_bf812 6 = .ok (.aload_n 0, 1) := by decide +kernel
theorem dJ4_append_bf812_7 : decode cJ4_append_bf812 7 = .ok (.areturn, 1) := by decide +kernel
def tab_J4_append_bf812 : List (Nat × Sem) := [(0, op_al 0 1), (1, op_il 1 2), (2, op_callGU sp_J5_append_c97b9 2 2 5), (5, op_pop 6), (6, op_al 0 7), (7, op_aret)]
set_option maxRecDepth 20000 in
theorem tok_J4_append_bf812 : ∀ q ∈ tab_J4_append_bf812, GSnd RJ4 cJ4_append_bf812 2 5 2 (some (.object "java/lang/StringBuilder")) q.1 q.2 := by
  unfold tab_J4_append_bf812
  refine gcons (snd_g (ok_aload_n dJ4_append_bf812_0 rfl rfl)) ?_
  refine gcons (snd_g (ok_iload_n dJ4_append_bf812_1 rfl rfl)) ?_
  refine gcons (ok_callGSU M_J5_append_c97b9 w_862 w_955 w_750 w_863 w_40 w_864 (by decide) (by decide +kernel) (by decide) (by decide) dJ4_append_bf812_2 rfl) ?_
  refine gcons (snd_g (ok_pop dJ4_append_bf812_5 rfl)) ?_
  refine gcons (snd_g (ok_aload_n dJ4_append_bf812_6 rfl rfl)) ?_
  refine gcons (snd_g (ok_areturn rfl dJ4_append_bf812_7)) ?_
  exact fun _ h => nomatch h
def sp_J4_append_bf812 : Spc := fun av s N _ => match av with
  | [.inl (.inr (18, 0)), .inl (.inl v)] => ∃ n c, n < 100 ∧ v = nI n ∧ SBS s c ∧ c + dgN n ≤ 34 ∧ ∀ s', SBS s' (c + dgN n) → eqB s s' c → (∀ j, j < dgN n → s'.2.1 19 0 (c + j) = nI (dgD n j)) → N (some (aR 18 0)) s'
  | _ => False
set_option maxRecDepth 20000 in
set_option maxHeartbeats 2000000 in
theorem M_J4_append_bf812 : GMet yJ4_append_bf812 cJ4_append_bf812 2 (some (.object "java/lang/StringBuilder")) 5 2 sp_J4_append_bf812 := by
  refine GMet.mk (own := RJ4) (by decide) rfl [0, 1] rfl tok_J4_append_bf812 200 ?_
  intro av s0 N X h
  unfold sp_J4_append_bf812 at h
  split at h
  rotate_left
  · exact h.elim
  rename_i v
  obtain ⟨n, c, hn, rfl, hS, hc, h⟩ := h
  have hL := SBS_L hS
  exact ⟨hL, by decide, Nat.le_of_ble_eq_true rfl, trivial, hL, n, c, hn, rfl, hS, hc, fun s1 hS1 hE1 hB1 => ⟨by decide, h s1 hS1 hE1 hB1⟩⟩

