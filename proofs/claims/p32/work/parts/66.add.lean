/-! ArrayList.add -/
theorem w_320 : (.methodLink "jdk/internal/util/ArraysSupport" 194 Lib.Math.max.name : Cond) ∈ TB := TB_mem (List.mem_of_getElem? (i := 320) (by decide +kernel)) rfl
theorem w_323 : (.constant "jdk/internal/util/ArraysSupport" 200 (2147483639) : Cond) ∈ TB := TB_mem (List.mem_of_getElem? (i := 323) (by decide +kernel)) rfl
theorem w_330 : (.methodLink "java/util/Arrays" 86 ⟨"java/lang/Object", "getClass", "()Ljava/lang/Class;"⟩ : Cond) ∈ TB := TB_mem (List.mem_of_getElem? (i := 330) (by decide +kernel)) rfl
theorem w_344 : (.methodLink "java/util/Arrays" 300 ⟨"java/util/Arrays", "copyOf", "([Ljava/lang/Object;ILjava/lang/Class;)[Ljava/lang/Object;"⟩ : Cond) ∈ TB := TB_mem (List.mem_of_getElem? (i := 344) (by decide +kernel)) rfl
theorem w_345 : (.static ⟨"java/util/Arrays", "copyOf", "([Ljava/lang/Object;ILjava/lang/Class;)[Ljava/lang/Object;"⟩ : Cond) ∈ TB := TB_mem (List.mem_of_getElem? (i := 345) (by decide +kernel)) rfl
theorem w_346 : (.code yJ7_copyOf_6403c cJ7_copyOf_6403c 4 (some (.array (.object "java/lang/Object"))) : Cond) ∈ TB := TB_mem (List.mem_of_getElem? (i := 346) (by decide +kernel)) rfl
theorem w_347 : (.classLink "java/util/Arrays" 110 "[Ljava/lang/Object;" : Cond) ∈ TB := TB_mem (List.mem_of_getElem? (i := 347) (by decide +kernel)) rfl
theorem w_349 : (.classLink "java/util/Arrays" 2 "java/lang/Object" : Cond) ∈ TB := TB_mem (List.mem_of_getElem? (i := 349) (by decide +kernel)) rfl
theorem w_350 : (.methodLink "java/util/Arrays" 304 Lib.Math.min.name : Cond) ∈ TB := TB_mem (List.mem_of_getElem? (i := 350) (by decide +kernel)) rfl
theorem w_351 : (.methodLink "java/util/Arrays" 150 ⟨"java/lang/System", "arraycopy", "(Ljava/lang/Object;ILjava/lang/Object;II)V"⟩ : Cond) ∈ TB := TB_mem (List.mem_of_getElem? (i := 351) (by decide +kernel)) rfl
theorem gz_er (g : GPm) (U : State) (h : GS g U) : va_Z "java/util/ArrayList" "DEFAULTCAPACITY_EMPTY_ELEMENTDATA" "[Ljava/lang/Object;" (.ref (g.2.1 (1000 * 73 + 0))) (gA g) U U.heap := h.2.2.2.2.2.1
theorem dJ8_newLength_cabcc_0 : decode cJ8_newLength_cabcc 0 = .ok (.iload_n 0, 1) := by decide +kernel
theorem dJ8_newLength_cabcc_1 : decode cJ8_newLength_cabcc 1 = .ok (.iload_n 1, 1) := by decide +kernel
theorem dJ8_newLength_cabcc_2 : decode cJ8_newLength_cabcc 2 = .ok (.iload_n 2, 1) := by decide +kernel
theorem dJ8_newLength_cabcc_3 : decode cJ8_newLength_cabcc 3 = .ok (.invokestatic 194, 3) := by decide +kernel
theorem dJ8_newLength_cabcc_6 : decode cJ8_newLength_cabcc 6 = .ok (.iadd, 1) := by decide +kernel
theorem dJ8_newLength_cabcc_7 : decode cJ8_newLength_cabcc 7 = .ok (.istore_n 3, 1) := by decide +kernel
theorem dJ8_newLength_cabcc_8 : decode cJ8_newLength_cabcc 8 = .ok (.iconst 0, 1) := by decide +kernel
theorem dJ8_newLength_cabcc_9 : decode cJ8_newLength_cabcc 9 = .ok (.iload_n 3, 1) := by decide +kernel
theorem dJ8_newLength_cabcc_10 : decode cJ8_newLength_cabcc 10 = .ok (.if_icmp .ge 11, 3) := by decide +kernel
theorem dJ8_newLength_cabcc_13 : decode cJ8_newLength_cabcc 13 = .ok (.iload_n 3, 1) := by decide +kernel
theorem dJ8_newLength_cabcc_14 : decode cJ8_newLength_cabcc 14 = .ok (.ldc 200, 2) := by decide +kernel
theorem dJ8_newLength_cabcc_16 : decode cJ8_newLength_cabcc 16 = .ok (.if_icmp .gt 5, 3) := by decide +kernel
theorem dJ8_newLength_cabcc_19 : decode cJ8_newLength_cabcc 19 = .ok (.iload_n 3, 1) := by decide +kernel
theorem dJ8_newLength_cabcc_20 : decode cJ8_newLength_cabcc 20 = .ok (.ireturn, 1) := by decide +kernel
theorem dJ8_newLength_cabcc_21 : decode cJ8_newLength_cabcc 21 = .ok (.iload_n 0, 1) := by decide +kernel
theorem dJ8_newLength_cabcc_22 : decode cJ8_newLength_cabcc 22 = .ok (.iload_n 1, 1) := by decide +kernel
theorem dJ8_newLength_cabcc_23 : decode cJ8_newLength_cabcc 23 = .ok (.invokestatic 201, 3) := by decide +kernel
theorem dJ8_newLength_cabcc_26 : decode cJ8_newLength_cabcc 26 = .ok (.ireturn, 1) := by decide +kernel
def tab_J8_newLength_cabcc : List (Nat × Sem) := [(0, op_il 0 1), (1, op_il 1 2), (2, op_il 2 3), (3, op_mm (fun x y => if x < y then y else x) 6), (6, op_bin (fun x y => x + y) 7), (7, op_is 3 8), (8, op_ic 0 9), (9, op_il 3 10), (10, op_cmp (fun x y => y ≤ x) 21 13), (13, op_il 3 14), (14, op_ic 2147483639 16), (16, op_cmp (fun x y => y < x) 21 19), (19, op_il 3 20), (20, op_iret)]
set_option maxRecDepth 20000 in
theorem tok_J8_newLength_cabcc : ∀ q ∈ tab_J8_newLength_cabcc, Snd RJ8 cJ8_newLength_cabcc 4 1 0 (some .int) q.1 q.2 := by
  unfold tab_J8_newLength_cabcc
  refine tcons (ok_iload_n dJ8_newLength_cabcc_0 rfl rfl) ?_
  refine tcons (ok_iload_n dJ8_newLength_cabcc_1 rfl rfl) ?_
  refine tcons (ok_iload_n dJ8_newLength_cabcc_2 rfl rfl) ?_
  refine tcons (ok_mmax w_320 w_321 w_32 w_322 (by decide) dJ8_newLength_cabcc_3 rfl) ?_
  refine tcons (ok_iadd dJ8_newLength_cabcc_6 rfl) ?_
  refine tcons (ok_istore_n dJ8_newLength_cabcc_7 rfl (by decide) rfl) ?_
  refine tcons (ok_iconst dJ8_newLength_cabcc_8 rfl rfl) ?_
  refine tcons (ok_iload_n dJ8_newLength_cabcc_9 rfl rfl) ?_
  refine tcons (ok_icmp_ge dJ8_newLength_cabcc_10 rfl rfl) ?_
  refine tcons (ok_iload_n dJ8_newLength_cabcc_13 rfl rfl) ?_
  refine tcons (ok_ldc w_323 dJ8_newLength_cabcc_14 rfl) ?_
  refine tcons (ok_icmp_gt dJ8_newLength_cabcc_16 rfl rfl) ?_
  refine tcons (ok_iload_n dJ8_newLength_cabcc_19 rfl rfl) ?_
  refine tcons (ok_ireturn rfl dJ8_newLength_cabcc_20) ?_
  exact fun _ h => nomatch h
def sp_J8_newLength_cabcc : Spc := fun av s N _ => match av with
  | [.inl (.inl a), .inl (.inl b), .inl (.inl c)] => (¬ a + (if b < c then c else b) ≤ 0) ∧ (¬ 2147483639 < a + (if b < c then c else b)) ∧ N (some (aI (a + (if b < c then c else b)))) s
  | _ => False
set_option maxRecDepth 20000 in
set_option maxHeartbeats 2000000 in
theorem M_J8_newLength_cabcc : AMet yJ8_newLength_cabcc cJ8_newLength_cabcc 4 (some .int) 1 0 sp_J8_newLength_cabcc := by
  refine AMet.mk (own := RJ8) (by decide) rfl [0, 1, 2, 3] rfl tok_J8_newLength_cabcc 200 ?_
  intro av s0 N X h
  unfold sp_J8_newLength_cabcc at h
  split at h
  rotate_left
  · exact h.elim
  refine ⟨fun _ => none, ?_, fun pc P hP => nomatch hP⟩
  repeat' (first | apply And.intro | (intro q; exact absurd q (by decide)) | intro _)
  all_goals first | decide | (exact (rfl : (0 : Nat) = 0)) | (exact Nat.le_of_ble_eq_true rfl) | (exact h.2.2) | (exact absurd (by assumption) h.1) | (exact absurd (by assumption) h.2.1) | (simp_all [-Int32.not_lt, -Int32.not_le]; done) | (simp_all [-Int32.not_lt, -Int32.not_le, ← Int32.not_le]; done) | (simp_all []; done)
theorem dJ7_copyOf_6403c_0 : decode cJ7_copyOf_6403c 0 = .ok (.aload_n 2, 1) := by decide +kernel
theorem dJ7_copyOf_6403c_1 : decode cJ7_copyOf_6403c 1 = .ok (.ldc 110, 2) := by decide +kernel
theorem dJ7_copyOf_6403c_3 : decode cJ7_copyOf_6403c 3 = .ok (.if_acmp .ne 10, 3) := by decide +kernel
theorem dJ7_copyOf_6403c_6 : decode cJ7_copyOf_6403c 6 = .ok (.iload_n 1, 1) := by decide +kernel
theorem dJ7_copyOf_6403c_7 : decode cJ7_copyOf_6403c 7 = .ok (.anewarray 2, 3) := by decide +kernel
theorem dJ7_copyOf_6403c_10 : decode cJ7_copyOf_6403c 10 = .ok (.goto 14, 3) := by decide +kernel
theorem dJ7_copyOf_6403c_13 : decode cJ7_copyOf_6403c 13 = .ok (.aload_n 2, 1) := by decide +kernel
theorem dJ7_copyOf_6403c_14 : decode cJ7_copyOf_6403c 14 = .ok (.invokevirtual 90, 3) := by decide +kernel
theorem dJ7_copyOf_6403c_17 : decode cJ7_copyOf_6403c 17 = .ok (.iload_n 1, 1) := by decide +kernel
theorem dJ7_copyOf_6403c_18 : decode cJ7_copyOf_6403c 18 = .ok (.invokestatic 95, 3) := by decide +kernel
theorem dJ7_copyOf_6403c_21 : decode cJ7_copyOf_6403c 21 = .ok (.checkcast 110, 3) := by decide +kernel
theorem dJ7_copyOf_6403c_24 : decode cJ7_copyOf_6403c 24 = .ok (.astore_n 3, 1) := by decide +kernel
theorem dJ7_copyOf_6403c_25 : decode cJ7_copyOf_6403c 25 = .ok (.aload_n 0, 1) := by decide +kernel
theorem dJ7_copyOf_6403c_26 : decode cJ7_copyOf_6403c 26 = .ok (.iconst 0, 1) := by decide +kernel
theorem dJ7_copyOf_6403c_27 : decode cJ7_copyOf_6403c 27 = .ok (.aload_n 3, 1) := by decide +kernel
theorem dJ7_copyOf_6403c_28 : decode cJ7_copyOf_6403c 28 = .ok (.iconst 0, 1) := by decide +kernel
theorem dJ7_copyOf_6403c_29 : decode cJ7_copyOf_6403c 29 = .ok (.aload_n 0, 1) := by decide +kernel
theorem dJ7_copyOf_6403c_30 : decode cJ7_copyOf_6403c 30 = .ok (.arraylength, 1) := by decide +kernel
theorem dJ7_copyOf_6403c_31 : decode cJ7_copyOf_6403c 31 = .ok (.iload_n 1, 1) := by decide +kernel
theorem dJ7_copyOf_6403c_32 : decode cJ7_copyOf_6403c 32 = .ok (.invokestatic 304, 3) := by decide +kernel
theorem dJ7_copyOf_6403c_35 : decode cJ7_copyOf_6403c 35 = .ok (.invokestatic 150, 3) := by decide +kernel
theorem dJ7_copyOf_6403c_38 : decode cJ7_copyOf_6403c 38 = .ok (.aload_n 3, 1) := by decide +kernel
theorem dJ7_copyOf_6403c_39 : decode cJ7_copyOf_6403c 39 = .ok (.areturn, 1) := by decide +kernel
def tab_J7_copyOf_6403c : List (Nat × Sem) := [(0, op_al 2 1), (1, op_ldcC 3), (3, op_acmpe 6), (6, op_il 1 7), (7, op_anew 10), (10, op_go 24), (24, op_as 3 25), (25, op_al 0 26), (26, op_ic 0 27), (27, op_al 3 28), (28, op_ic 0 29), (29, op_al 0 30), (30, op_alen3 31), (31, op_il 1 32), (32, op_mm (fun x y => if y < x then y else x) 35), (35, op_acopy 38), (38, op_al 3 39), (39, op_aret)]
set_option maxRecDepth 20000 in
theorem tok_J7_copyOf_6403c : ∀ q ∈ tab_J7_copyOf_6403c, GSnd RJ7 cJ7_copyOf_6403c 4 1 2 (some (.array (.object "java/lang/Object"))) q.1 q.2 := by
  unfold tab_J7_copyOf_6403c
  refine gcons (snd_g (ok_aload_n dJ7_copyOf_6403c_0 rfl rfl)) ?_
  refine gcons (snd_g (ok_ldcC w_347 dJ7_copyOf_6403c_1 rfl)) ?_
  refine gcons (snd_g (ok_acmpn dJ7_copyOf_6403c_3 rfl rfl)) ?_
  refine gcons (snd_g (ok_iload_n dJ7_copyOf_6403c_6 rfl rfl)) ?_
  refine gcons (ok_anew w_349 dJ7_copyOf_6403c_7 rfl) ?_
  refine gcons (snd_g (ok_goto dJ7_copyOf_6403c_10 rfl)) ?_
  refine gcons (snd_g (ok_astore_n dJ7_copyOf_6403c_24 rfl (by decide) rfl)) ?_
  refine gcons (snd_g (ok_aload_n dJ7_copyOf_6403c_25 rfl rfl)) ?_
  refine gcons (snd_g (ok_iconst dJ7_copyOf_6403c_26 rfl rfl)) ?_
  refine gcons (snd_g (ok_aload_n dJ7_copyOf_6403c_27 rfl rfl)) ?_
  refine gcons (snd_g (ok_iconst dJ7_copyOf_6403c_28 rfl rfl)) ?_
  refine gcons (snd_g (ok_aload_n dJ7_copyOf_6403c_29 rfl rfl)) ?_
  refine gcons (snd_g (ok_alen3 dJ7_copyOf_6403c_30 rfl)) ?_
  refine gcons (snd_g (ok_iload_n dJ7_copyOf_6403c_31 rfl rfl)) ?_
  refine gcons (snd_g (ok_mmin w_350 w_268 w_32 w_269 (by decide) dJ7_copyOf_6403c_32 rfl)) ?_
  refine gcons (snd_g (ok_acopy w_351 w_353 w_352 w_35 (by decide) dJ7_copyOf_6403c_35 rfl)) ?_
  refine gcons (snd_g (ok_aload_n dJ7_copyOf_6403c_38 rfl rfl)) ?_
  refine gcons (snd_g (ok_areturnA rfl dJ7_copyOf_6403c_39)) ?_
  exact fun _ h => nomatch h
def sp_J7_copyOf_6403c : Spc := fun av s N _ => match av with
  | [.inl (.inr (3, a)), .inl (.inl n), .inl (.inr (73, 2))] => a < 3 ∧ 0 < s.1 (3 + a) ∧ s.1 (3 + a) ≤ 48 ∧ s.1 14 = 0 ∧ s.1 (9 + a) = 0 ∧ s.1 a ≤ s.1 (3 + a) ∧ (∃ m : Nat, n = nI m ∧ s.1 (3 + a) ≤ m ∧ m ≤ 48 ∧ N (some (aR 59 a)) (stC (mk59 s a m) 15 (s.1 a)))
  | _ => False
set_option maxRecDepth 20000 in
set_option maxHeartbeats 2000000 in
theorem M_J7_copyOf_6403c : GMet yJ7_copyOf_6403c cJ7_copyOf_6403c 4 (some (.array (.object "java/lang/Object"))) 1 2 sp_J7_copyOf_6403c := by
  refine GMet.mk (own := RJ7) (by decide) rfl [0, 1, 2, 3] rfl tok_J7_copyOf_6403c 200 ?_
  intro av s0 N X h
  unfold sp_J7_copyOf_6403c at h
  split at h
  rotate_left
  · exact h.elim
  rename_i a n
  obtain ⟨ha3, h3, h348, h14, h9, hle, m, rfl, hm, hm48, h⟩ := h
  have c0 : (nI m).toNatClampNeg = m := nI_clamp (by omega)
  have c1 : (nI (s0.1 (3 + a))).toNatClampNeg = s0.1 (3 + a) := nI_clamp (by omega)
  have e1 : (mk59 s0 a m).1 (3 + a) = s0.1 (3 + a) := mk59_1 (by omega) (by omega) (by omega)
  have e2 : (mk59 s0 a m).1 (9 + a) = 0 := (mk59_1 (by omega) (by omega) (by omega)).trans h9
  have e3 : (mk59 s0 a m).1 a = s0.1 a := mk59_1 (by omega) (by omega) (by omega)
  have hmin : (if nI m < nI (s0.1 (3 + a)) then nI m else nI (s0.1 (3 + a))) = nI (s0.1 (3 + a)) := if_neg (nI_nlt hm (by omega))
  refine ⟨Or.inl ⟨rfl, rfl⟩, ha3, h14, nI_pos (by omega), by rw [c0]; omega, by rw [c0]; omega, by (first | decide | exact Nat.le_of_ble_eq_true rfl), rfl, rfl, ?_⟩
  rw [c0]
  refine ⟨ha3, by (first | decide | exact Nat.le_of_ble_eq_true rfl), by (first | decide | exact Nat.le_of_ble_eq_true rfl), ?_⟩
  rw [e1]
  dsimp only
  rw [hmin]
  refine ⟨rfl, rfl, rfl, ha3, by rw [e1]; exact h3, mk59_16, by rw [mk59_14]; omega, mk59_15, e2, nI_pos (by omega), by rw [c1, e1]; exact Nat.le_refl _, by rw [c1, mk59_14]; exact hm, by rw [c1, e3]; exact hle, Nat.le_add_right _ _, by (first | decide | exact Nat.le_of_ble_eq_true rfl), by (first | decide | exact Nat.le_of_ble_eq_true rfl), ?_⟩
  rw [e3]
  exact h
theorem dJ7_copyOf_1904c_0 : decode cJ7_copyOf_1904c 0 = .ok (.aload_n 0, 1) := by decide +kernel
theorem dJ7_copyOf_1904c_1 : decode cJ7_copyOf_1904c 1 = .ok (.iload_n 1, 1) := by decide +kernel
theorem dJ7_copyOf_1904c_2 : decode cJ7_copyOf_1904c 2 = .ok (.aload_n 0, 1) := by decide +kernel
theorem dJ7_copyOf_1904c_3 : decode cJ7_copyOf_1904c 3 = .ok (.invokevirtual 86, 3) := by decide +kernel
theorem dJ7_copyOf_1904c_6 : decode cJ7_copyOf_1904c 6 = .ok (.invokestatic 300, 3) := by decide +kernel
theorem dJ7_copyOf_1904c_9 : decode cJ7_copyOf_1904c 9 = .ok (.areturn, 1) := by decide +kernel
def tab_J7_copyOf_1904c : List (Nat × Sem) := [(0, op_al 0 1), (1, op_il 1 2), (2, op_al 0 3), (3, op_getC 6), (6, op_callG sp_J7_copyOf_6403c 3 2 9), (9, op_aret)]
set_option maxRecDepth 20000 in
theorem tok_J7_copyOf_1904c : ∀ q ∈ tab_J7_copyOf_1904c, GSnd RJ7 cJ7_copyOf_1904c 2 2 2 (some (.array (.object "java/lang/Object"))) q.1 q.2 := by
  unfold tab_J7_copyOf_1904c
  refine gcons (snd_g (ok_aload_n dJ7_copyOf_1904c_0 rfl rfl)) ?_
  refine gcons (snd_g (ok_iload_n dJ7_copyOf_1904c_1 rfl rfl)) ?_
  refine gcons (snd_g (ok_aload_n dJ7_copyOf_1904c_2 rfl rfl)) ?_
  refine gcons (snd_g (ok_getC w_330 w_dG w_971 w_331 w_343 (by decide) dJ7_copyOf_1904c_3 rfl)) ?_
  refine gcons (ok_invokestaticG M_J7_copyOf_6403c w_344 w_345 w_25 w_346 ⟨by decide, by decide, by decide +kernel⟩ (by decide) (by decide) dJ7_copyOf_1904c_6 rfl) ?_
  refine gcons (snd_g (ok_areturnA rfl dJ7_copyOf_1904c_9)) ?_
  exact fun _ h => nomatch h
def sp_J7_copyOf_1904c : Spc := fun av s N _ => match av with
  | [.inl (.inr (3, a)), .inl (.inl n)] => a < 3 ∧ 0 < s.1 (3 + a) ∧ s.1 (3 + a) ≤ 48 ∧ s.1 14 = 0 ∧ s.1 (9 + a) = 0 ∧ s.1 a ≤ s.1 (3 + a) ∧ (∃ m : Nat, n = nI m ∧ s.1 (3 + a) ≤ m ∧ m ≤ 48 ∧ N (some (aR 59 a)) (stC (mk59 s a m) 15 (s.1 a)))
  | _ => False
set_option maxRecDepth 20000 in
set_option maxHeartbeats 2000000 in
theorem M_J7_copyOf_1904c : GMet yJ7_copyOf_1904c cJ7_copyOf_1904c 2 (some (.array (.object "java/lang/Object"))) 2 2 sp_J7_copyOf_1904c := by
  refine GMet.mk (own := RJ7) (by decide) rfl [0, 1] rfl tok_J7_copyOf_1904c 200 ?_
  intro av s0 N X h
  unfold sp_J7_copyOf_1904c at h
  split at h
  rotate_left
  · exact h.elim
  rename_i a n
  obtain ⟨ha3, h3, h348, h14, h9, hle, m, rfl, hm, hm48, h⟩ := h
  exact ⟨ha3, h3, by (first | decide | exact Nat.le_of_ble_eq_true rfl), by (first | decide | exact Nat.le_of_ble_eq_true rfl), by (first | decide | exact Nat.le_of_ble_eq_true rfl), trivial, ha3, h3, h348, h14, h9, hle, m, rfl, hm, hm48, by (first | decide | exact Nat.le_of_ble_eq_true rfl), h⟩

