/-! ArrayList.grow -/
theorem w_2 : (.selects "java/util/ArrayList" ⟨"java/util/ArrayList", "add", "(Ljava/lang/Object;[Ljava/lang/Object;I)V"⟩ ⟨"java/util/ArrayList", "add", "(Ljava/lang/Object;[Ljava/lang/Object;I)V"⟩ : Cond) ∈ TB := TB_mem (List.mem_of_getElem? (i := 2) (by decide +kernel)) rfl
theorem w_3 : (.selects "java/util/ArrayList" ⟨"java/util/ArrayList", "grow", "()[Ljava/lang/Object;"⟩ ⟨"java/util/ArrayList", "grow", "()[Ljava/lang/Object;"⟩ : Cond) ∈ TB := TB_mem (List.mem_of_getElem? (i := 3) (by decide +kernel)) rfl
theorem w_4 : (.selects "java/util/ArrayList" ⟨"java/util/ArrayList", "grow", "(I)[Ljava/lang/Object;"⟩ ⟨"java/util/ArrayList", "grow", "(I)[Ljava/lang/Object;"⟩ : Cond) ∈ TB := TB_mem (List.mem_of_getElem? (i := 4) (by decide +kernel)) rfl
theorem w_34 : (.initialized "jdk/internal/util/ArraysSupport" : Cond) ∈ TB := TB_mem (List.mem_of_getElem? (i := 34) (by decide +kernel)) rfl
theorem w_72 : (.fieldLink "java/util/ArrayList" 63 "java/util/ArrayList" "modCount" "I" : Cond) ∈ TB := TB_mem (List.mem_of_getElem? (i := 72) (by decide +kernel)) rfl
theorem w_73 : (.sameField "java/util/ArrayList" "java/util/AbstractList" "modCount" "I" : Cond) ∈ TB := TB_mem (List.mem_of_getElem? (i := 73) (by decide +kernel)) rfl
theorem w_305 : (.methodLink "java/util/ArrayList" 131 ⟨"java/util/ArrayList", "add", "(Ljava/lang/Object;[Ljava/lang/Object;I)V"⟩ : Cond) ∈ TB := TB_mem (List.mem_of_getElem? (i := 305) (by decide +kernel)) rfl
theorem w_307 : (.instanceMethod ⟨"java/util/ArrayList", "add", "(Ljava/lang/Object;[Ljava/lang/Object;I)V"⟩ : Cond) ∈ TB := TB_mem (List.mem_of_getElem? (i := 307) (by decide +kernel)) rfl
theorem w_308 : (.code yJx4a65c_add_72be8 cJx4a65c_add_72be8 4 none : Cond) ∈ TB := TB_mem (List.mem_of_getElem? (i := 308) (by decide +kernel)) rfl
theorem w_309 : (.methodLink "java/util/ArrayList" 129 ⟨"java/util/ArrayList", "grow", "()[Ljava/lang/Object;"⟩ : Cond) ∈ TB := TB_mem (List.mem_of_getElem? (i := 309) (by decide +kernel)) rfl
theorem w_311 : (.instanceMethod ⟨"java/util/ArrayList", "grow", "()[Ljava/lang/Object;"⟩ : Cond) ∈ TB := TB_mem (List.mem_of_getElem? (i := 311) (by decide +kernel)) rfl
theorem w_312 : (.code yJx4a65c_grow_d5877 cJx4a65c_grow_d5877 1 (some (.array (.object "java/lang/Object"))) : Cond) ∈ TB := TB_mem (List.mem_of_getElem? (i := 312) (by decide +kernel)) rfl
theorem w_313 : (.methodLink "java/util/ArrayList" 69 ⟨"java/util/ArrayList", "grow", "(I)[Ljava/lang/Object;"⟩ : Cond) ∈ TB := TB_mem (List.mem_of_getElem? (i := 313) (by decide +kernel)) rfl
theorem w_315 : (.instanceMethod ⟨"java/util/ArrayList", "grow", "(I)[Ljava/lang/Object;"⟩ : Cond) ∈ TB := TB_mem (List.mem_of_getElem? (i := 315) (by decide +kernel)) rfl
theorem w_316 : (.code yJx4a65c_grow_92f84 cJx4a65c_grow_92f84 4 (some (.array (.object "java/lang/Object"))) : Cond) ∈ TB := TB_mem (List.mem_of_getElem? (i := 316) (by decide +kernel)) rfl
theorem w_317 : (.methodLink "java/util/ArrayList" 73 ⟨"jdk/internal/util/ArraysSupport", "newLength", "(III)I"⟩ : Cond) ∈ TB := TB_mem (List.mem_of_getElem? (i := 317) (by decide +kernel)) rfl
theorem w_318 : (.static ⟨"jdk/internal/util/ArraysSupport", "newLength", "(III)I"⟩ : Cond) ∈ TB := TB_mem (List.mem_of_getElem? (i := 318) (by decide +kernel)) rfl
theorem w_319 : (.code yJ8_newLength_cabcc cJ8_newLength_cabcc 4 (some .int) : Cond) ∈ TB := TB_mem (List.mem_of_getElem? (i := 319) (by decide +kernel)) rfl
theorem w_327 : (.methodLink "java/util/ArrayList" 66 ⟨"java/util/Arrays", "copyOf", "([Ljava/lang/Object;I)[Ljava/lang/Object;"⟩ : Cond) ∈ TB := TB_mem (List.mem_of_getElem? (i := 327) (by decide +kernel)) rfl
theorem w_328 : (.static ⟨"java/util/Arrays", "copyOf", "([Ljava/lang/Object;I)[Ljava/lang/Object;"⟩ : Cond) ∈ TB := TB_mem (List.mem_of_getElem? (i := 328) (by decide +kernel)) rfl
theorem w_329 : (.code yJ7_copyOf_1904c cJ7_copyOf_1904c 2 (some (.array (.object "java/lang/Object"))) : Cond) ∈ TB := TB_mem (List.mem_of_getElem? (i := 329) (by decide +kernel)) rfl
theorem w_354 : (.methodLink "java/util/ArrayList" 79 Lib.Math.max.name : Cond) ∈ TB := TB_mem (List.mem_of_getElem? (i := 354) (by decide +kernel)) rfl
theorem w_355 : (.classLink "java/util/ArrayList" 7 "java/lang/Object" : Cond) ∈ TB := TB_mem (List.mem_of_getElem? (i := 355) (by decide +kernel)) rfl
def gcap (c : Nat) : Nat := if c = 0 then 10 else c + c / 2
def groS (s : Sg) (a : Nat) : Sg := setR (stC (mk59 s a (gcap (s.1 (3 + a)))) 15 (s.1 a)) a
theorem gro_len {c n : Nat} (h1 : ¬ c = 0) (h2 : ¬ c = 1) (hc : c ≤ 30) (hn : n = c) : nI c + (if nI (n + 1) - nI c < nI c >>> ((1 : Int32) &&& 31) then nI c >>> ((1 : Int32) &&& 31) else nI (n + 1) - nI c) = nI (gcap c) := by
  subst hn
  have es : nI n >>> ((1 : Int32) &&& 31) = nI (n / 2) := by
    have k := pk_shrN (n := n) (by omega) ((1 : Int32) &&& 31) 1 (by decide)
    rw [Nat.pow_one] at k
    exact k
  have ed : nI (n + 1) - nI n = nI 1 := by
    have k := pk_sub (a := n + 1) (b := n) (by omega)
    rw [Nat.add_sub_cancel_left] at k
    exact k
  rw [es, ed]
  unfold gcap
  rw [if_neg h1]
  by_cases h3 : 1 < n / 2
  · rw [if_pos (nI_lt h3 (by omega))]
    exact nI_add n (n / 2)
  · rw [if_neg (nI_nlt (by omega) (by decide))]
    have hd : n / 2 = 1 := by omega
    rw [hd]
    exact nI_add n 1
theorem dJx4a65c_grow_92f84_0 : decode cJx4a65c_grow_92f84 0 = .ok (.aload_n 0, 1) := by decide +kernel
theorem dJx4a65c_grow_92f84_1 : decode cJx4a65c_grow_92f84 1 = .ok (.getfield 9, 3) := by decide +kernel
theorem dJx4a65c_grow_92f84_4 : decode cJx4a65c_grow_92f84 4 = .ok (.arraylength, 1) := by decide +kernel
theorem dJx4a65c_grow_92f84_5 : decode cJx4a65c_grow_92f84 5 = .ok (.istore_n 2, 1) := by decide +kernel
theorem dJx4a65c_grow_92f84_6 : decode cJx4a65c_grow_92f84 6 = .ok (.iload_n 2, 1) := by decide +kernel
theorem dJx4a65c_grow_92f84_7 : decode cJx4a65c_grow_92f84 7 = .ok (.ifCond .gt 13, 3) := by decide +kernel
theorem dJx4a65c_grow_92f84_10 : decode cJx4a65c_grow_92f84 10 = .ok (.aload_n 0, 1) := by decide +kernel
theorem dJx4a65c_grow_92f84_11 : decode cJx4a65c_grow_92f84 11 = .ok (.getfield 9, 3) := by decide +kernel
theorem dJx4a65c_grow_92f84_14 : decode cJx4a65c_grow_92f84 14 = .ok (.getstatic 39, 3) := by decide +kernel
theorem dJx4a65c_grow_92f84_17 : decode cJx4a65c_grow_92f84 17 = .ok (.if_acmp .eq 28, 3) := by decide +kernel
theorem dJx4a65c_grow_92f84_20 : decode cJx4a65c_grow_92f84 20 = .ok (.iload_n 2, 1) := by decide +kernel
theorem dJx4a65c_grow_92f84_21 : decode cJx4a65c_grow_92f84 21 = .ok (.iload_n 1, 1) := by decide +kernel
theorem dJx4a65c_grow_92f84_22 : decode cJx4a65c_grow_92f84 22 = .ok (.iload_n 2, 1) := by decide +kernel
theorem dJx4a65c_grow_92f84_23 : decode cJx4a65c_grow_92f84 23 = .ok (.isub, 1) := by decide +kernel
theorem dJx4a65c_grow_92f84_24 : decode cJx4a65c_grow_92f84 24 = .ok (.iload_n 2, 1) := by decide +kernel
theorem dJx4a65c_grow_92f84_25 : decode cJx4a65c_grow_92f84 25 = .ok (.iconst 1, 1) := by decide +kernel
theorem dJx4a65c_grow_92f84_26 : decode cJx4a65c_grow_92f84 26 = .ok (.ishr, 1) := by decide +kernel
theorem dJx4a65c_grow_92f84_27 : decode cJx4a65c_grow_92f84 27 = .ok (.invokestatic 73, 3) := by decide +kernel
theorem dJx4a65c_grow_92f84_30 : decode cJx4a65c_grow_92f84 30 = .ok (.istore_n 3, 1) := by decide +kernel
theorem dJx4a65c_grow_92f84_31 : decode cJx4a65c_grow_92f84 31 = .ok (.aload_n 0, 1) := by decide +kernel
theorem dJx4a65c_grow_92f84_32 : decode cJx4a65c_grow_92f84 32 = .ok (.aload_n 0, 1) := by decide +kernel
theorem dJx4a65c_grow_92f84_33 : decode cJx4a65c_grow_92f84 33 = .ok (.getfield 9, 3) := by decide +kernel
theorem dJx4a65c_grow_92f84_36 : decode cJx4a65c_grow_92f84 36 = .ok (.iload_n 3, 1) := by decide +kernel
theorem dJx4a65c_grow_92f84_37 : decode cJx4a65c_grow_92f84 37 = .ok (.invokestatic 66, 3) := by decide +kernel
theorem dJx4a65c_grow_92f84_40 : decode cJx4a65c_grow_92f84 40 = .ok (.dup_x1, 1) := by decide +kernel
theorem dJx4a65c_grow_92f84_41 : decode cJx4a65c_grow_92f84 41 = .ok (.putfield 9, 3) := by decide +kernel
theorem dJx4a65c_grow_92f84_44 : decode cJx4a65c_grow_92f84 44 = .ok (.areturn, 1) := by decide +kernel
theorem dJx4a65c_grow_92f84_45 : decode cJx4a65c_grow_92f84 45 = .ok (.aload_n 0, 1) := by decide +kernel
theorem dJx4a65c_grow_92f84_46 : decode cJx4a65c_grow_92f84 46 = .ok (.bipush 10, 2) := by decide +kernel
theorem dJx4a65c_grow_92f84_48 : decode cJx4a65c_grow_92f84 48 = .ok (.iload_n 1, 1) := by decide +kernel
theorem dJx4a65c_grow_92f84_49 : decode cJx4a65c_grow_92f84 49 = .ok (.invokestatic 79, 3) := by decide +kernel
theorem dJx4a65c_grow_92f84_52 : decode cJx4a65c_grow_92f84 52 = .ok (.anewarray 7, 3) := by decide +kernel
theorem dJx4a65c_grow_92f84_55 : decode cJx4a65c_grow_92f84 55 = .ok (.dup_x1, 1) := by decide +kernel
theorem dJx4a65c_grow_92f84_56 : decode cJx4a65c_grow_92f84 56 = .ok (.putfield 9, 3) := by decide +kernel
theorem dJx4a65c_grow_92f84_59 : decode cJx4a65c_grow_92f84 59 = .ok (.areturn, 1) := by decide +kernel
def tab_Jx4a65c_grow_92f84 : List (Nat × Sem) := [(0, op_al 0 1), (1, op_gf 1 1 4), (4, op_alen3 5), (5, op_is 2 6), (6, op_il 2 7), (7, op_if (fun x => 0 < x) 20 10), (10, op_al 0 11), (11, op_gf 1 1 14), (14, op_gs 73 0 17), (17, op_acmpe 45), (20, op_il 2 21), (21, op_il 1 22), (22, op_il 2 23), (23, op_bin (fun x y => x - y) 24), (24, op_il 2 25), (25, op_ic 1 26), (26, op_bin (fun x y => x >>> (y &&& 31)) 27), (27, op_call sp_J8_newLength_cabcc 3 0 30), (30, op_is 3 31), (31, op_al 0 32), (32, op_al 0 33), (33, op_gf 1 1 36), (36, op_il 3 37), (37, op_callG sp_J7_copyOf_1904c 2 2 40), (40, op_prow 44), (44, op_aret), (45, op_al 0 46), (46, op_ic 10 48), (48, op_il 1 49), (49, op_mm (fun x y => if x < y then y else x) 52), (52, op_anew 55), (55, op_prow 59), (59, op_aret)]
set_option maxRecDepth 20000 in
theorem tok_Jx4a65c_grow_92f84 : ∀ q ∈ tab_Jx4a65c_grow_92f84, GSnd RJx4a65c cJx4a65c_grow_92f84 4 3 2 (some (.array (.object "java/lang/Object"))) q.1 q.2 := by
  unfold tab_Jx4a65c_grow_92f84
  refine gcons (snd_g (ok_aload_n dJx4a65c_grow_92f84_0 rfl rfl)) ?_
  refine gcons (snd_g (ok_getfield (C := RJx4a65c) (T := TJx4a65c) (n := 3) rfl in_Jx4a65c (by decide) w_69 dJx4a65c_grow_92f84_1 rfl)) ?_
  refine gcons (snd_g (ok_alen3 dJx4a65c_grow_92f84_4 rfl)) ?_
  refine gcons (snd_g (ok_istore_n dJx4a65c_grow_92f84_5 rfl (by decide) rfl)) ?_
  refine gcons (snd_g (ok_iload_n dJx4a65c_grow_92f84_6 rfl rfl)) ?_
  refine gcons (snd_g (ok_if_gt dJx4a65c_grow_92f84_7 rfl rfl)) ?_
  refine gcons (snd_g (ok_aload_n dJx4a65c_grow_92f84_10 rfl rfl)) ?_
  refine gcons (snd_g (ok_getfield (C := RJx4a65c) (T := TJx4a65c) (n := 3) rfl in_Jx4a65c (by decide) w_69 dJx4a65c_grow_92f84_11 rfl)) ?_
  refine gcons (snd_g (ok_gs (by decide) gz_er w_67 dJx4a65c_grow_92f84_14 rfl)) ?_
  refine gcons (snd_g (ok_acmpe dJx4a65c_grow_92f84_17 rfl)) ?_
  refine gcons (snd_g (ok_iload_n dJx4a65c_grow_92f84_20 rfl rfl)) ?_
  refine gcons (snd_g (ok_iload_n dJx4a65c_grow_92f84_21 rfl rfl)) ?_
  refine gcons (snd_g (ok_iload_n dJx4a65c_grow_92f84_22 rfl rfl)) ?_
  refine gcons (snd_g (ok_isub dJx4a65c_grow_92f84_23 rfl)) ?_
  refine gcons (snd_g (ok_iload_n dJx4a65c_grow_92f84_24 rfl rfl)) ?_
  refine gcons (snd_g (ok_iconst dJx4a65c_grow_92f84_25 rfl rfl)) ?_
  refine gcons (snd_g (ok_ishr dJx4a65c_grow_92f84_26 rfl)) ?_
  refine gcons (snd_g (ok_invokestatic M_J8_newLength_cabcc w_317 w_318 w_34 w_319 ⟨by decide, by decide, by decide +kernel⟩ (by decide) (by decide) dJx4a65c_grow_92f84_27 rfl)) ?_
  refine gcons (snd_g (ok_istore_n dJx4a65c_grow_92f84_30 rfl (by decide) rfl)) ?_
  refine gcons (snd_g (ok_aload_n dJx4a65c_grow_92f84_31 rfl rfl)) ?_
  refine gcons (snd_g (ok_aload_n dJx4a65c_grow_92f84_32 rfl rfl)) ?_
  refine gcons (snd_g (ok_getfield (C := RJx4a65c) (T := TJx4a65c) (n := 3) rfl in_Jx4a65c (by decide) w_69 dJx4a65c_grow_92f84_33 rfl)) ?_
  refine gcons (snd_g (ok_iload_n dJx4a65c_grow_92f84_36 rfl rfl)) ?_
  refine gcons (ok_invokestaticG M_J7_copyOf_1904c w_327 w_328 w_25 w_329 ⟨by decide, by decide, by decide +kernel⟩ (by decide) (by decide) dJx4a65c_grow_92f84_37 rfl) ?_
  refine gcons (ok_prow in_Jx4a65c w_69 dJx4a65c_grow_92f84_40 dJx4a65c_grow_92f84_41 rfl) ?_
  refine gcons (snd_g (ok_areturnA rfl dJx4a65c_grow_92f84_44)) ?_
  refine gcons (snd_g (ok_aload_n dJx4a65c_grow_92f84_45 rfl rfl)) ?_
  refine gcons (snd_g (ok_bipush dJx4a65c_grow_92f84_46 rfl rfl)) ?_
  refine gcons (snd_g (ok_iload_n dJx4a65c_grow_92f84_48 rfl rfl)) ?_
  refine gcons (snd_g (ok_mmax w_354 w_321 w_32 w_322 (by decide) dJx4a65c_grow_92f84_49 rfl)) ?_
  refine gcons (ok_anew w_355 dJx4a65c_grow_92f84_52 rfl) ?_
  refine gcons (ok_prow in_Jx4a65c w_69 dJx4a65c_grow_92f84_55 dJx4a65c_grow_92f84_56 rfl) ?_
  refine gcons (snd_g (ok_areturnA rfl dJx4a65c_grow_92f84_59)) ?_
  exact fun _ h => nomatch h
def sp_Jx4a65c_grow_92f84 : Spc := fun av s N _ => match av with
  | [.inl (.inr (2, a)), .inl (.inl m)] => a < 3 ∧ s.1 a = s.1 (3 + a) ∧ s.1 (3 + a) ≤ 30 ∧ ¬ s.1 (3 + a) = 1 ∧ s.1 14 = 0 ∧ s.1 (9 + a) = 0 ∧ m = nI (s.1 a + 1) ∧ N (some (aR 3 a)) (groS s a)
  | _ => False
set_option maxRecDepth 20000 in
set_option maxHeartbeats 2000000 in
theorem M_Jx4a65c_grow_92f84 : GMet yJx4a65c_grow_92f84 cJx4a65c_grow_92f84 4 (some (.array (.object "java/lang/Object"))) 3 2 sp_Jx4a65c_grow_92f84 := by
  refine GMet.mk (own := RJx4a65c) (by decide) rfl [0, 1, 2, 3] rfl tok_Jx4a65c_grow_92f84 200 ?_
  intro av s0 N X h
  unfold sp_Jx4a65c_grow_92f84 at h
  split at h
  rotate_left
  · exact h.elim
  rename_i a m
  obtain ⟨ha3, hfull, h30, hn1, h14, h9, rfl, h⟩ := h
  refine ⟨ha3, ha3, fun q => ?_, fun q => ?_⟩
  · have hc0 : ¬ s0.1 (3 + a) = 0 := fun hc => by rw [hc] at q; exact absurd q (by decide)
    have hlen := gro_len hc0 hn1 h30 hfull
    have hg : gcap (s0.1 (3 + a)) = s0.1 (3 + a) + s0.1 (3 + a) / 2 := if_neg hc0
    refine ⟨by (first | decide | exact Nat.le_of_ble_eq_true rfl), by (first | decide | exact Nat.le_of_ble_eq_true rfl), ?_⟩
    show (¬ nI (s0.1 (3 + a)) + (if nI (s0.1 a + 1) - nI (s0.1 (3 + a)) < nI (s0.1 (3 + a)) >>> ((1 : Int32) &&& 31) then nI (s0.1 (3 + a)) >>> ((1 : Int32) &&& 31) else nI (s0.1 a + 1) - nI (s0.1 (3 + a))) ≤ 0) ∧ (¬ 2147483639 < nI (s0.1 (3 + a)) + (if nI (s0.1 a + 1) - nI (s0.1 (3 + a)) < nI (s0.1 (3 + a)) >>> ((1 : Int32) &&& 31) then nI (s0.1 (3 + a)) >>> ((1 : Int32) &&& 31) else nI (s0.1 a + 1) - nI (s0.1 (3 + a)))) ∧ _
    refine ⟨by rw [hlen]; exact nI_nle (by omega) (by omega), by rw [hlen]; exact (show ¬ nI 2147483639 < nI (gcap (s0.1 (3 + a))) from nI_nlt (by omega) (by decide)), ?_⟩
    refine ⟨ha3, by (first | decide | exact Nat.le_of_ble_eq_true rfl), by (first | decide | exact Nat.le_of_ble_eq_true rfl), ⟨ha3, trivial⟩, ha3, ?_⟩
    refine ⟨ha3, by omega, by omega, h14, h9, by omega, gcap (s0.1 (3 + a)), hlen, by omega, by omega, ?_⟩
    have e14 : (stC (mk59 s0 a (gcap (s0.1 (3 + a)))) 15 (s0.1 a)).1 14 = gcap (s0.1 (3 + a)) := by rw [stC_ne (by decide), mk59_14]
    have e16 : (stC (mk59 s0 a (gcap (s0.1 (3 + a)))) 15 (s0.1 a)).1 16 = a := by rw [stC_ne (by decide), mk59_16]
    have ea : (stC (mk59 s0 a (gcap (s0.1 (3 + a)))) 15 (s0.1 a)).1 a = s0.1 a := by rw [stC_ne (by omega), mk59_1 (by omega) (by omega) (by omega)]
    have e9 : (stC (mk59 s0 a (gcap (s0.1 (3 + a)))) 15 (s0.1 a)).1 (9 + a) = 0 := by rw [stC_ne (by omega), mk59_1 (by omega) (by omega) (by omega)]; exact h9
    exact ⟨rfl, ha3, by rw [e14]; omega, e16, by rw [stC_eq, ea, e9, Nat.add_zero], trivial, ha3, by (first | decide | exact Nat.le_of_ble_eq_true rfl), h⟩
  · have hc0 : s0.1 (3 + a) = 0 := Nat.eq_zero_of_not_pos fun hp => q (nI_lt hp (by omega))
    have hmax : (if (10 : Int32) < nI (s0.1 a + 1) then nI (s0.1 a + 1) else 10) = 10 := by rw [hfull, hc0]; decide
    refine ⟨ha3, Or.inr ⟨rfl, ha3, hc0, rfl, rfl⟩, by (first | decide | exact Nat.le_of_ble_eq_true rfl), by (first | decide | exact Nat.le_of_ble_eq_true rfl), ?_⟩
    dsimp only
    rw [hmax]
    have e14 : (mk59 s0 a 10).1 14 = 10 := mk59_14
    have ea : (mk59 s0 a 10).1 a = s0.1 a := mk59_1 (by omega) (by omega) (by omega)
    have e9 : (mk59 s0 a 10).1 (9 + a) = 0 := (mk59_1 (by omega) (by omega) (by omega)).trans h9
    refine ⟨ha3, h14, by (first | decide | exact Nat.le_of_ble_eq_true rfl), by (first | decide | exact Nat.le_of_ble_eq_true rfl), by (first | decide | exact Nat.le_of_ble_eq_true rfl), by (first | decide | exact Nat.le_of_ble_eq_true rfl), rfl, rfl, rfl, ha3, by (first | decide | exact Nat.le_of_ble_eq_true rfl), mk59_16, ?_, trivial, ha3, by (first | decide | exact Nat.le_of_ble_eq_true rfl), ?_⟩
    · show 0 = (mk59 s0 a 10).1 a + (mk59 s0 a 10).1 (9 + a)
      rw [ea, e9, hfull, hc0]
    · have eg : groS s0 a = setR (mk59 s0 a 10) a := by
        unfold groS
        have e1 : gcap (s0.1 (3 + a)) = 10 := by rw [hc0]; rfl
        rw [e1, hfull, hc0]
        congr 1
        refine Sg_ext (funext fun c => ?_) (fun _ _ _ => rfl) rfl
        by_cases hc : c = 15
        · subst hc; rw [stC_eq, mk59_15]
        · rw [stC_ne hc]
      rw [eg] at h
      exact h
theorem dJx4a65c_grow_d5877_0 : decode cJx4a65c_grow_d5877 0 = .ok (.aload_n 0, 1) := by decide +kernel
theorem dJx4a65c_grow_d5877_1 : decode cJx4a65c_grow_d5877 1 = .ok (.aload_n 0, 1) := by decide +kernel
theorem dJx4a65c_grow_d5877_2 : decode cJx4a65c_grow_d5877 2 = .ok (.getfield 48, 3) := by decide +kernel
theorem dJx4a65c_grow_d5877_5 : decode cJx4a65c_grow_d5877 5 = .ok (.iconst 1, 1) := by decide +kernel
theorem dJx4a65c_grow_d5877_6 : decode cJx4a65c_grow_d5877 6 = .ok (.iadd, 1) := by decide +kernel
theorem dJx4a65c_grow_d5877_7 : decode cJx4a65c_grow_d5877 7 = .ok (.invokevirtual 69, 3) := by decide +kernel
theorem dJx4a65c_grow_d5877_10 : decode cJx4a65c_grow_d5877 10 = .ok (.areturn, 1) := by decide +kernel
def tab_Jx4a65c_grow_d5877 : List (Nat × Sem) := [(0, op_al 0 1), (1, op_al 0 2), (2, op_gf 1 2 5), (5, op_ic 1 6), (6, op_bin (fun x y => x + y) 7), (7, op_callGV 1 sp_Jx4a65c_grow_92f84 2 2 10), (10, op_aret)]
set_option maxRecDepth 20000 in
theorem tok_Jx4a65c_grow_d5877 : ∀ q ∈ tab_Jx4a65c_grow_d5877, GSnd RJx4a65c cJx4a65c_grow_d5877 1 4 2 (some (.array (.object "java/lang/Object"))) q.1 q.2 := by
  unfold tab_Jx4a65c_grow_d5877
  refine gcons (snd_g (ok_aload_n dJx4a65c_grow_d5877_0 rfl rfl)) ?_
  refine gcons (snd_g (ok_aload_n dJx4a65c_grow_d5877_1 rfl rfl)) ?_
  refine gcons (snd_g (ok_getfield (C := RJx4a65c) (T := TJx4a65c) (n := 3) rfl in_Jx4a65c (by decide) w_70 dJx4a65c_grow_d5877_2 rfl)) ?_
  refine gcons (snd_g (ok_iconst dJx4a65c_grow_d5877_5 rfl rfl)) ?_
  refine gcons (snd_g (ok_iadd dJx4a65c_grow_d5877_6 rfl)) ?_
  refine gcons (ok_invokevirtualG M_Jx4a65c_grow_92f84 (C := RJx4a65c) (T := TJx4a65c) (nf := 3) rfl w_313 w_315 w_4 w_23 w_316 ⟨rfl, by decide, by decide, by decide +kernel⟩ (by decide) (by decide) dJx4a65c_grow_d5877_7 rfl) ?_
  refine gcons (snd_g (ok_areturnA rfl dJx4a65c_grow_d5877_10)) ?_
  exact fun _ h => nomatch h
def sp_Jx4a65c_grow_d5877 : Spc := fun av s N _ => match av with
  | [.inl (.inr (2, a))] => a < 3 ∧ s.1 a = s.1 (3 + a) ∧ s.1 (3 + a) ≤ 30 ∧ ¬ s.1 (3 + a) = 1 ∧ s.1 14 = 0 ∧ s.1 (9 + a) = 0 ∧ N (some (aR 3 a)) (groS s a)
  | _ => False
set_option maxRecDepth 20000 in
set_option maxHeartbeats 2000000 in
theorem M_Jx4a65c_grow_d5877 : GMet yJx4a65c_grow_d5877 cJx4a65c_grow_d5877 1 (some (.array (.object "java/lang/Object"))) 4 2 sp_Jx4a65c_grow_d5877 := by
  refine GMet.mk (own := RJx4a65c) (by decide) rfl [0] rfl tok_Jx4a65c_grow_d5877 200 ?_
  intro av s0 N X h
  unfold sp_Jx4a65c_grow_d5877 at h
  split at h
  rotate_left
  · exact h.elim
  rename_i a
  obtain ⟨ha3, hfull, h30, hn1, h14, h9, h⟩ := h
  exact ⟨ha3, ha3, by (first | decide | exact Nat.le_of_ble_eq_true rfl), by (first | decide | exact Nat.le_of_ble_eq_true rfl), trivial, ha3, ha3, hfull, h30, hn1, h14, h9, nIs _, by (first | decide | exact Nat.le_of_ble_eq_true rfl), h⟩
theorem dJx4a65c_add_72be8_0 : decode cJx4a65c_add_72be8 0 = .ok (.iload_n 3, 1) := by decide +kernel
theorem dJx4a65c_add_72be8_1 : decode cJx4a65c_add_72be8 1 = .ok (.aload_n 2, 1) := by decide +kernel
theorem dJx4a65c_add_72be8_2 : decode cJx4a65c_add_72be8 2 = .ok (.arraylength, 1) := by decide +kernel
theorem dJx4a65c_add_72be8_3 : decode cJx4a65c_add_72be8 3 = .ok (.if_icmp .ne 8, 3) := by decide +kernel
theorem dJx4a65c_add_72be8_6 : decode cJx4a65c_add_72be8 6 = .ok (.aload_n 0, 1) := by decide +kernel
theorem dJx4a65c_add_72be8_7 : decode cJx4a65c_add_72be8 7 = .ok (.invokevirtual 129, 3) := by decide +kernel
theorem dJx4a65c_add_72be8_10 : decode cJx4a65c_add_72be8 10 = .ok (.astore_n 2, 1) := by decide +kernel
theorem dJx4a65c_add_72be8_11 : decode cJx4a65c_add_72be8 11 = .ok (.aload_n 2, 1) := by decide +kernel
theorem dJx4a65c_add_72be8_12 : decode cJx4a65c_add_72be8 12 = .ok (.iload_n 3, 1) := by decide +kernel
theorem dJx4a65c_add_72be8_13 : decode cJx4a65c_add_72be8 13 = .ok (.aload_n 1, 1) := by decide +kernel
theorem dJx4a65c_add_72be8_14 : decode cJx4a65c_add_72be8 14 = .ok (.aastore, 1) := by decide +kernel
theorem dJx4a65c_add_72be8_15 : decode cJx4a65c_add_72be8 15 = .ok (.aload_n 0, 1) := by decide +kernel
theorem dJx4a65c_add_72be8_16 : decode cJx4a65c_add_72be8 16 = .ok (.iload_n 3, 1) := by decide +kernel
theorem dJx4a65c_add_72be8_17 : decode cJx4a65c_add_72be8 17 = .ok (.iconst 1, 1) := by decide +kernel
theorem dJx4a65c_add_72be8_18 : decode cJx4a65c_add_72be8 18 = .ok (.iadd, 1) := by decide +kernel
theorem dJx4a65c_add_72be8_19 : decode cJx4a65c_add_72be8 19 = .ok (.putfield 48, 3) := by decide +kernel
theorem dJx4a65c_add_72be8_22 : decode cJx4a65c_add_72be8 22 = .ok (.return_, 1) := by decide +kernel
def tab_Jx4a65c_add_72be8 : List (Nat × Sem) := [(0, op_il 3 1), (1, op_al 2 2), (2, op_alen3 3), (3, op_cmp (fun x y => ¬ x = y) 11 6), (6, op_al 0 7), (7, op_callGV 1 sp_Jx4a65c_grow_d5877 1 2 10), (10, op_as 2 11), (11, op_al 2 12), (12, op_il 3 13), (13, op_al 1 14), (14, op_aast3 15), (15, op_al 0 16), (16, op_il 3 17), (17, op_ic 1 18), (18, op_bin (fun x y => x + y) 19), (19, op_psize 22), (22, op_vret)]
set_option maxRecDepth 20000 in
theorem tok_Jx4a65c_add_72be8 : ∀ q ∈ tab_Jx4a65c_add_72be8, GSnd RJx4a65c cJx4a65c_add_72be8 4 5 2 none q.1 q.2 := by
  unfold tab_Jx4a65c_add_72be8
  refine gcons (snd_g (ok_iload_n dJx4a65c_add_72be8_0 rfl rfl)) ?_
  refine gcons (snd_g (ok_aload_n dJx4a65c_add_72be8_1 rfl rfl)) ?_
  refine gcons (snd_g (ok_alen3 dJx4a65c_add_72be8_2 rfl)) ?_
  refine gcons (snd_g (ok_icmp_ne dJx4a65c_add_72be8_3 rfl rfl)) ?_
  refine gcons (snd_g (ok_aload_n dJx4a65c_add_72be8_6 rfl rfl)) ?_
  refine gcons (ok_invokevirtualG M_Jx4a65c_grow_d5877 (C := RJx4a65c) (T := TJx4a65c) (nf := 3) rfl w_309 w_311 w_3 w_23 w_312 ⟨rfl, by decide, by decide, by decide +kernel⟩ (by decide) (by decide) dJx4a65c_add_72be8_7 rfl) ?_
  refine gcons (snd_g (ok_astore_n dJx4a65c_add_72be8_10 rfl (by decide) rfl)) ?_
  refine gcons (snd_g (ok_aload_n dJx4a65c_add_72be8_11 rfl rfl)) ?_
  refine gcons (snd_g (ok_iload_n dJx4a65c_add_72be8_12 rfl rfl)) ?_
  refine gcons (snd_g (ok_aload_n dJx4a65c_add_72be8_13 rfl rfl)) ?_
  refine gcons (snd_g (ok_aast3 dJx4a65c_add_72be8_14 rfl)) ?_
  refine gcons (snd_g (ok_aload_n dJx4a65c_add_72be8_15 rfl rfl)) ?_
  refine gcons (snd_g (ok_iload_n dJx4a65c_add_72be8_16 rfl rfl)) ?_
  refine gcons (snd_g (ok_iconst dJx4a65c_add_72be8_17 rfl rfl)) ?_
  refine gcons (snd_g (ok_iadd dJx4a65c_add_72be8_18 rfl)) ?_
  refine gcons (snd_g (ok_psize in_Jx4a65c w_70 dJx4a65c_add_72be8_19 rfl)) ?_
  refine gcons (snd_g (ok_vreturn rfl dJx4a65c_add_72be8_22)) ?_
  exact fun _ h => nomatch h
/-- a list takes in what was made for it -/
def addS (s : Sg) (a : Nat) : Sg := pszS (stC (if s.1 a = s.1 (3 + a) then groS s a else s) (9 + a) 1) a
theorem groS_ne {s : Sg} {a c : Nat} (h : ¬ c = 3 + a) (h14 : c < 14) : (groS s a).1 c = s.1 c := by
  unfold groS
  rw [setR_ne h (by omega), stC_ne (by omega), mk59_1 (by omega) (by omega) (by omega)]
theorem groS_3 {s : Sg} {a : Nat} (h : a < 3) : (groS s a).1 (3 + a) = gcap (s.1 (3 + a)) := by
  unfold groS
  rw [setR_3 h, stC_ne (by decide), mk59_14]
def sp_Jx4a65c_add_72be8 : Spc := fun av s N _ => match av with
  | [.inl (.inr (2, a)), .inl (.inr (t, n)), .inl (.inr (3, b)), .inl (.inl m)] => b = a ∧ t = 12 + a ∧ n = s.1 a ∧ m = nI (s.1 a) ∧ a < 3 ∧ s.1 a ≤ s.1 (3 + a) ∧ s.1 a ≤ 30 ∧ s.1 (3 + a) ≤ 48 ∧ ¬ s.1 (3 + a) = 1 ∧ s.1 14 = 0 ∧ s.1 (6 + a) = 1 ∧ s.1 (9 + a) = 0 ∧ N none (addS s a)
  | _ => False
set_option maxRecDepth 20000 in
set_option maxHeartbeats 2000000 in
theorem M_Jx4a65c_add_72be8 : GMet yJx4a65c_add_72be8 cJx4a65c_add_72be8 4 none 5 2 sp_Jx4a65c_add_72be8 := by
  refine GMet.mk (own := RJx4a65c) (by decide) rfl [0, 1, 2, 3] rfl tok_Jx4a65c_add_72be8 200 ?_
  intro av s0 N X h
  unfold sp_Jx4a65c_add_72be8 at h
  split at h
  rotate_left
  · exact h.elim
  rename_i a t n b m
  obtain ⟨rfl, rfl, rfl, rfl, ha3, hle, h30, h48, hn1, h14, h6, h9, h⟩ := h
  unfold addS at h
  have hLb : Lv s0 (12 + b) (s0.1 b) := by
    rw [Lv3 ha3]
    omega
  have hmv : mvk (12 + b) = false := by
    have : b = 0 ∨ b = 1 ∨ b = 2 := by omega
    rcases this with rfl | rfl | rfl <;> rfl
  refine ⟨ha3, fun q => ?_, fun q => ?_⟩
  · have hne : ¬ s0.1 b = s0.1 (3 + b) := fun hc => q (by rw [hc])
    rw [if_neg hne] at h
    exact ⟨rfl, rfl, ha3, h6, h9, by omega, by omega, rfl, ha3, by rw [stC_ne (by omega)]; exact h6, stC_eq, by rw [stC_ne (by omega)]; exact nIs _, by (first | decide | exact Nat.le_of_ble_eq_true rfl), h⟩
  · have hfull : s0.1 b = s0.1 (3 + b) := (nI_eq (by omega) (by omega)).mp (Classical.not_not.mp q)
    rw [if_pos hfull] at h
    have ea : (groS s0 b).1 b = s0.1 b := groS_ne (by omega) (by omega)
    have e6 : (groS s0 b).1 (6 + b) = 1 := (groS_ne (by omega) (by omega)).trans h6
    have e9 : (groS s0 b).1 (9 + b) = 0 := (groS_ne (by omega) (by omega)).trans h9
    have hg : s0.1 (3 + b) < gcap (s0.1 (3 + b)) ∧ gcap (s0.1 (3 + b)) ≤ 48 := by
      unfold gcap
      by_cases h0 : s0.1 (3 + b) = 0
      · rw [if_pos h0]; omega
      · rw [if_neg h0]; omega
    refine ⟨ha3, by (first | decide | exact Nat.le_of_ble_eq_true rfl), by (first | decide | exact Nat.le_of_ble_eq_true rfl), trivial, ?_⟩
    show lvK s0 [(0, .inr (2, b)), (1, .inr (12 + b, s0.1 b)), (2, .inr (3, b)), (3, .inl (nI (s0.1 b)))] _
    unfold lvK lvK
    rw [show mvk 2 = false from rfl, cond_false, hmv, cond_false]
    refine ⟨ha3, Lvc_of hLb, ha3, hfull, by omega, hn1, h14, h9, ?_⟩
    exact ⟨rfl, ea.symm, ha3, e6, e9, by rw [ea, groS_3 ha3]; omega, by rw [groS_3 ha3]; omega, by rw [ea], ha3, by rw [stC_ne (by omega)]; exact e6, stC_eq, by rw [stC_ne (by omega), ea]; exact nIs _, by (first | decide | exact Nat.le_of_ble_eq_true rfl), h⟩
theorem dJx4a65c_add_9ea2d_0 : decode cJx4a65c_add_9ea2d 0 = .ok (.aload_n 0, 1) := by decide +kernel
theorem dJx4a65c_add_9ea2d_1 : decode cJx4a65c_add_9ea2d 1 = .ok (.dup, 1) := by decide +kernel
theorem dJx4a65c_add_9ea2d_2 : decode cJx4a65c_add_9ea2d 2 = .ok (.getfield 63, 3) := by decide +kernel
theorem dJx4a65c_add_9ea2d_5 : decode cJx4a65c_add_9ea2d 5 = .ok (.iconst 1, 1) := by decide +kernel
theorem dJx4a65c_add_9ea2d_6 : decode cJx4a65c_add_9ea2d 6 = .ok (.iadd, 1) := by decide +kernel
theorem dJx4a65c_add_9ea2d_7 : decode cJx4a65c_add_9ea2d 7 = .ok (.putfield 63, 3) := by decide +kernel
theorem dJx4a65c_add_9ea2d_10 : decode cJx4a65c_add_9ea2d 10 = .ok (.aload_n 0, 1) := by decide +kernel
theorem dJx4a65c_add_9ea2d_11 : decode cJx4a65c_add_9ea2d 11 = .ok (.aload_n 1, 1) := by decide +kernel
theorem dJx4a65c_add_9ea2d_12 : decode cJx4a65c_add_9ea2d 12 = .ok (.aload_n 0, 1) := by decide +kernel
theorem dJx4a65c_add_9ea2d_13 : decode cJx4a65c_add_9ea2d 13 = .ok (.getfield 9, 3) := by decide +kernel
theorem dJx4a65c_add_9ea2d_16 : decode cJx4a65c_add_9ea2d 16 = .ok (.aload_n 0, 1) := by decide +kernel
theorem dJx4a65c_add_9ea2d_17 : decode cJx4a65c_add_9ea2d 17 = .ok (.getfield 48, 3) := by decide +kernel
theorem dJx4a65c_add_9ea2d_20 : decode cJx4a65c_add_9ea2d 20 = .ok (.invokevirtual 131, 3) := by decide +kernel
theorem dJx4a65c_add_9ea2d_23 : decode cJx4a65c_add_9ea2d 23 = .ok (.iconst 1, 1) := by decide +kernel
theorem dJx4a65c_add_9ea2d_24 : decode cJx4a65c_add_9ea2d 24 = .ok (.ireturn, 1) := by decide +kernel
def tab_Jx4a65c_add_9ea2d : List (Nat × Sem) := [(0, op_al 0 1), (1, op_dup 2), (2, op_gf 1 0 5), (5, op_ic 1 6), (6, op_bin (fun x y => x + y) 7), (7, op_pf 1 0 10), (10, op_al 0 11), (11, op_al 1 12), (12, op_al 0 13), (13, op_gf 1 1 16), (16, op_al 0 17), (17, op_gf 1 2 20), (20, op_callGV 1 sp_Jx4a65c_add_72be8 4 2 23), (23, op_ic 1 24), (24, op_zret)]
set_option maxRecDepth 20000 in
theorem tok_Jx4a65c_add_9ea2d : ∀ q ∈ tab_Jx4a65c_add_9ea2d, GSnd RJx4a65c cJx4a65c_add_9ea2d 2 6 2 (some .boolean) q.1 q.2 := by
  unfold tab_Jx4a65c_add_9ea2d
  refine gcons (snd_g (ok_aload_n dJx4a65c_add_9ea2d_0 rfl rfl)) ?_
  refine gcons (snd_g (ok_dup dJx4a65c_add_9ea2d_1 rfl)) ?_
  refine gcons (snd_g (ok_getfieldS (C := RJx4a65c) (T := TJx4a65c) (n := 3) rfl in_Jx4a65c (by decide) w_72 w_73 dJx4a65c_add_9ea2d_2 rfl)) ?_
  refine gcons (snd_g (ok_iconst dJx4a65c_add_9ea2d_5 rfl rfl)) ?_
  refine gcons (snd_g (ok_iadd dJx4a65c_add_9ea2d_6 rfl)) ?_
  refine gcons (snd_g (ok_putfieldS (C := RJx4a65c) (T := TJx4a65c) (n := 3) tyJx4a65c .int rfl in_Jx4a65c tyJx4a65c_ok nmJx4a65c (by decide) rfl w_72 w_73 rfl (Or.inl rfl) dJx4a65c_add_9ea2d_7 rfl)) ?_
  refine gcons (snd_g (ok_aload_n dJx4a65c_add_9ea2d_10 rfl rfl)) ?_
  refine gcons (snd_g (ok_aload_n dJx4a65c_add_9ea2d_11 rfl rfl)) ?_
  refine gcons (snd_g (ok_aload_n dJx4a65c_add_9ea2d_12 rfl rfl)) ?_
  refine gcons (snd_g (ok_getfield (C := RJx4a65c) (T := TJx4a65c) (n := 3) rfl in_Jx4a65c (by decide) w_69 dJx4a65c_add_9ea2d_13 rfl)) ?_
  refine gcons (snd_g (ok_aload_n dJx4a65c_add_9ea2d_16 rfl rfl)) ?_
  refine gcons (snd_g (ok_getfield (C := RJx4a65c) (T := TJx4a65c) (n := 3) rfl in_Jx4a65c (by decide) w_70 dJx4a65c_add_9ea2d_17 rfl)) ?_
  refine gcons (ok_invokevirtualG M_Jx4a65c_add_72be8 (C := RJx4a65c) (T := TJx4a65c) (nf := 3) rfl w_305 w_307 w_2 w_23 w_308 ⟨rfl, by decide, by decide, by decide +kernel⟩ (by decide) (by decide) dJx4a65c_add_9ea2d_20 rfl) ?_
  refine gcons (snd_g (ok_iconst dJx4a65c_add_9ea2d_23 rfl rfl)) ?_
  refine gcons (snd_g (ok_zreturn rfl (Or.inl rfl) dJx4a65c_add_9ea2d_24)) ?_
  exact fun _ h => nomatch h
def sp_Jx4a65c_add_9ea2d : Spc := fun av s N _ => match av with
  | [.inl (.inr (2, a)), .inl (.inr (t, n))] => t = 12 + a ∧ n = s.1 a ∧ a < 3 ∧ s.1 a ≤ s.1 (3 + a) ∧ s.1 a ≤ 30 ∧ s.1 (3 + a) ≤ 48 ∧ ¬ s.1 (3 + a) = 1 ∧ s.1 14 = 0 ∧ s.1 (6 + a) = 1 ∧ s.1 (9 + a) = 0 ∧ N (some (aI 1)) (addS (stS s 2 a 0 (s.2.1 2 a 0 + 1)) a)
  | _ => False
set_option maxRecDepth 20000 in
set_option maxHeartbeats 2000000 in
theorem M_Jx4a65c_add_9ea2d : GMet yJx4a65c_add_9ea2d cJx4a65c_add_9ea2d 2 (some .boolean) 6 2 sp_Jx4a65c_add_9ea2d := by
  refine GMet.mk (own := RJx4a65c) (by decide) rfl [0, 1] rfl tok_Jx4a65c_add_9ea2d 200 ?_
  intro av s0 N X h
  unfold sp_Jx4a65c_add_9ea2d at h
  split at h
  rotate_left
  · exact h.elim
  rename_i a t n
  obtain ⟨rfl, rfl, ha3, hle, h30, h48, hn1, h14, h6, h9, h⟩ := h
  have hLb : Lv s0 (12 + a) (s0.1 a) := by
    rw [Lv3 ha3]
    omega
  have hmv : mvk (12 + a) = false := by
    have : a = 0 ∨ a = 1 ∨ a = 2 := by omega
    rcases this with rfl | rfl | rfl <;> rfl
  refine ⟨ha3, ha3, ha3, ha3, ha3, by (first | decide | exact Nat.le_of_ble_eq_true rfl), by (first | decide | exact Nat.le_of_ble_eq_true rfl), trivial, ?_⟩
  show lvK (stS s0 2 a 0 (s0.2.1 2 a 0 + 1)) [(0, .inr (2, a)), (1, .inr (12 + a, s0.1 a))] _
  unfold lvK lvK
  rw [show mvk 2 = false from rfl, cond_false, hmv, cond_false]
  exact ⟨ha3, Lvc_of hLb, rfl, rfl, rfl, rfl, ha3, hle, h30, h48, hn1, h14, h6, h9, by (first | decide | exact Nat.le_of_ble_eq_true rfl), Or.inr rfl, h⟩

