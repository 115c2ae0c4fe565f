def ykP (s : Sg) (p q a : Int32) : Prop := s.2.1 20 0 0 - s.2.1 22 0 (cl p) < a ∨ s.2.1 20 0 0 - s.2.1 22 0 (cl q) < a
def akP (v : Int32) : Prop := ¬ v = -1 ∧ (v - v / 100 * 100 = 1 ∨ v / 100 ≤ 4)
theorem dX5_areKin_0 : decode cX5_areKin 0 = .ok (.aload_n 0, 1) := by decide +kernel
theorem dX5_areKin_1 : decode cX5_areKin 1 = .ok (.iload_n 1, 1) := by decide +kernel
theorem dX5_areKin_2 : decode cX5_areKin 2 = .ok (.iload_n 2, 1) := by decide +kernel
theorem dX5_areKin_3 : decode cX5_areKin 3 = .ok (.invokevirtual 124, 3) := by decide +kernel
theorem dX5_areKin_6 : decode cX5_areKin 6 = .ok (.istore_n 3, 1) := by decide +kernel
theorem dX5_areKin_7 : decode cX5_areKin 7 = .ok (.iload_n 3, 1) := by decide +kernel
theorem dX5_areKin_8 : decode cX5_areKin 8 = .ok (.iconst (-1), 1) := by decide +kernel
theorem dX5_areKin_9 : decode cX5_areKin 9 = .ok (.if_icmp .eq 23, 3) := by decide +kernel
theorem dX5_areKin_12 : decode cX5_areKin 12 = .ok (.iload_n 3, 1) := by decide +kernel
theorem dX5_areKin_13 : decode cX5_areKin 13 = .ok (.bipush 100, 2) := by decide +kernel
theorem dX5_areKin_15 : decode cX5_areKin 15 = .ok (.irem, 1) := by decide +kernel
theorem dX5_areKin_16 : decode cX5_areKin 16 = .ok (.iconst 1, 1) := by decide +kernel
theorem dX5_areKin_17 : decode cX5_areKin 17 = .ok (.if_icmp .eq 11, 3) := by decide +kernel
theorem dX5_areKin_20 : decode cX5_areKin 20 = .ok (.iload_n 3, 1) := by decide +kernel
theorem dX5_areKin_21 : decode cX5_areKin 21 = .ok (.bipush 100, 2) := by decide +kernel
theorem dX5_areKin_23 : decode cX5_areKin 23 = .ok (.idiv, 1) := by decide +kernel
theorem dX5_areKin_24 : decode cX5_areKin 24 = .ok (.iconst 4, 1) := by decide +kernel
theorem dX5_areKin_25 : decode cX5_areKin 25 = .ok (.if_icmp .gt 7, 3) := by decide +kernel
theorem dX5_areKin_28 : decode cX5_areKin 28 = .ok (.iconst 1, 1) := by decide +kernel
theorem dX5_areKin_29 : decode cX5_areKin 29 = .ok (.goto 4, 3) := by decide +kernel
theorem dX5_areKin_32 : decode cX5_areKin 32 = .ok (.iconst 0, 1) := by decide +kernel
theorem dX5_areKin_33 : decode cX5_areKin 33 = .ok (.ireturn, 1) := by decide +kernel
def tab_X5_areKin : List (Nat × Sem) := [(0, op_al 0 1), (1, op_il 1 2), (2, op_il 2 3), (3, op_callV 7 sp_X5_kinOf 3 0 6), (6, op_is 3 7), (7, op_il 3 8), (8, op_ic (-1) 9), (9, op_cmp (fun x y => x = y) 32 12), (12, op_il 3 13), (13, op_ic 100 15), (15, op_dv (fun x y => x - x / y * y) 16), (16, op_ic 1 17), (17, op_cmp (fun x y => x = y) 28 20), (20, op_il 3 21), (21, op_ic 100 23), (23, op_dv (fun x y => x / y) 24), (24, op_ic 4 25), (25, op_cmp (fun x y => y < x) 32 28), (28, op_ic 1 29), (29, op_go 33), (32, op_ic 0 33), (33, op_zret)]
set_option maxRecDepth 20000 in
theorem tok_X5_areKin : ∀ q ∈ tab_X5_areKin, Snd RX5 cX5_areKin 4 1 0 (some .boolean) q.1 q.2 := by
  unfold tab_X5_areKin
  refine tcons (ok_aload_n dX5_areKin_0 rfl rfl) ?_
  refine tcons (ok_iload_n dX5_areKin_1 rfl rfl) ?_
  refine tcons (ok_iload_n dX5_areKin_2 rfl rfl) ?_
  refine tcons (ok_invokevirtual M_X5_kinOf (C := RX5) (T := TX5) (nf := 33) rfl w_1160 w_1162 w_26 w_49 w_1163 ⟨rfl, by decide, by decide, by decide +kernel⟩ (by decide) (by decide) dX5_areKin_3 rfl) ?_
  refine tcons (ok_istore_n dX5_areKin_6 rfl (by decide) rfl) ?_
  refine tcons (ok_iload_n dX5_areKin_7 rfl rfl) ?_
  refine tcons (ok_iconst dX5_areKin_8 rfl rfl) ?_
  refine tcons (ok_icmp_eq dX5_areKin_9 rfl rfl) ?_
  refine tcons (ok_iload_n dX5_areKin_12 rfl rfl) ?_
  refine tcons (ok_bipush dX5_areKin_13 rfl rfl) ?_
  refine tcons (ok_irem dX5_areKin_15 rfl) ?_
  refine tcons (ok_iconst dX5_areKin_16 rfl rfl) ?_
  refine tcons (ok_icmp_eq dX5_areKin_17 rfl rfl) ?_
  refine tcons (ok_iload_n dX5_areKin_20 rfl rfl) ?_
  refine tcons (ok_bipush dX5_areKin_21 rfl rfl) ?_
  refine tcons (ok_idiv dX5_areKin_23 rfl) ?_
  refine tcons (ok_iconst dX5_areKin_24 rfl rfl) ?_
  refine tcons (ok_icmp_gt dX5_areKin_25 rfl rfl) ?_
  refine tcons (ok_iconst dX5_areKin_28 rfl rfl) ?_
  refine tcons (ok_goto dX5_areKin_29 rfl) ?_
  refine tcons (ok_iconst dX5_areKin_32 rfl rfl) ?_
  refine tcons (ok_zreturn rfl (Or.inl rfl) dX5_areKin_33) ?_
  exact fun _ h => nomatch h
def sp_X5_areKin : Spc := fun av s N _ => match av with
  | [.inl (.inr (20, 0)), .inl (.inl p), .inl (.inl q)] => MI s ∧ Ib p 24 ∧ Ib q 24 ∧ br (akP (kinM s p q)) N s
  | _ => False
set_option maxRecDepth 20000 in
set_option maxHeartbeats 2000000 in
theorem M_X5_areKin : AMet yX5_areKin cX5_areKin 4 (some .boolean) 1 0 sp_X5_areKin := by
  refine AMet.mk (own := RX5) (by decide) rfl [0, 1, 2, 3] rfl tok_X5_areKin 200 ?_
  intro av s0 N X h
  unfold sp_X5_areKin at h
  split at h
  rotate_left
  · exact h.elim
  refine ⟨fun _ => none, ?_, fun pc P hP => nomatch hP⟩
  repeat' (first | apply And.intro | (intro q; exact absurd q (by decide)) | intro _)
  all_goals first | decide | (exact (rfl : (0 : Nat) = 0)) | (exact Nat.le_of_ble_eq_true rfl) | (exact h.1) | (exact h.2.1) | (exact h.2.2.1) | (simp_all [-Int32.not_lt, -Int32.not_le, br, akP]; done) | (simp_all [-Int32.not_lt, -Int32.not_le, ← Int32.not_le, br, akP]; done) | (simp_all [br, akP]; done)
noncomputable def iteP {α : Type} (P : Prop) (a b : α) : α := @ite α P (Classical.propDecidable P) a b
theorem iteP_t {α : Type} {P : Prop} {a b : α} (h : P) : iteP P a b = a := if_pos h
theorem iteP_f {α : Type} {P : Prop} {a b : α} (h : ¬ P) : iteP P a b = b := if_neg h
noncomputable def hndM (s : Sg) (p q : Int32) : Int32 := (iteP (ykP s p q 5760) 1 0 ||| iteP (akP (kinM s p q)) 2 0) ||| iteP (¬ s.2.1 25 0 (cl p) = 0 ∨ ¬ s.2.1 25 0 (cl q) = 0) 8 0
theorem dX5_hinders_0 : decode cX5_hinders 0 = .ok (.aload_n 0, 1) := by decide +kernel
theorem dX5_hinders_1 : decode cX5_hinders 1 = .ok (.iload_n 1, 1) := by decide +kernel
theorem dX5_hinders_2 : decode cX5_hinders 2 = .ok (.iload_n 2, 1) := by decide +kernel
theorem dX5_hinders_3 : decode cX5_hinders 3 = .ok (.sipush 5760, 3) := by decide +kernel
theorem dX5_hinders_6 : decode cX5_hinders 6 = .ok (.invokevirtual 128, 3) := by decide +kernel
theorem dX5_hinders_9 : decode cX5_hinders 9 = .ok (.ifCond .eq 7, 3) := by decide +kernel
theorem dX5_hinders_12 : decode cX5_hinders 12 = .ok (.iconst 1, 1) := by decide +kernel
theorem dX5_hinders_13 : decode cX5_hinders 13 = .ok (.goto 4, 3) := by decide +kernel
theorem dX5_hinders_16 : decode cX5_hinders 16 = .ok (.iconst 0, 1) := by decide +kernel
theorem dX5_hinders_17 : decode cX5_hinders 17 = .ok (.aload_n 0, 1) := by decide +kernel
theorem dX5_hinders_18 : decode cX5_hinders 18 = .ok (.iload_n 1, 1) := by decide +kernel
theorem dX5_hinders_19 : decode cX5_hinders 19 = .ok (.iload_n 2, 1) := by decide +kernel
theorem dX5_hinders_20 : decode cX5_hinders 20 = .ok (.invokevirtual 131, 3) := by decide +kernel
theorem dX5_hinders_23 : decode cX5_hinders 23 = .ok (.ifCond .eq 7, 3) := by decide +kernel
theorem dX5_hinders_26 : decode cX5_hinders 26 = .ok (.iconst 2, 1) := by decide +kernel
theorem dX5_hinders_27 : decode cX5_hinders 27 = .ok (.goto 4, 3) := by decide +kernel
theorem dX5_hinders_30 : decode cX5_hinders 30 = .ok (.iconst 0, 1) := by decide +kernel
theorem dX5_hinders_31 : decode cX5_hinders 31 = .ok (.ior, 1) := by decide +kernel
theorem dX5_hinders_32 : decode cX5_hinders 32 = .ok (.aload_n 0, 1) := by decide +kernel
theorem dX5_hinders_33 : decode cX5_hinders 33 = .ok (.getfield 19, 3) := by decide +kernel
theorem dX5_hinders_36 : decode cX5_hinders 36 = .ok (.iload_n 1, 1) := by decide +kernel
theorem dX5_hinders_37 : decode cX5_hinders 37 = .ok (.baload, 1) := by decide +kernel
theorem dX5_hinders_38 : decode cX5_hinders 38 = .ok (.ifCond .ne 12, 3) := by decide +kernel
theorem dX5_hinders_41 : decode cX5_hinders 41 = .ok (.aload_n 0, 1) := by decide +kernel
theorem dX5_hinders_42 : decode cX5_hinders 42 = .ok (.getfield 19, 3) := by decide +kernel
theorem dX5_hinders_45 : decode cX5_hinders 45 = .ok (.iload_n 2, 1) := by decide +kernel
theorem dX5_hinders_46 : decode cX5_hinders 46 = .ok (.baload, 1) := by decide +kernel
theorem dX5_hinders_47 : decode cX5_hinders 47 = .ok (.ifCond .eq 8, 3) := by decide +kernel
theorem dX5_hinders_50 : decode cX5_hinders 50 = .ok (.bipush 8, 2) := by decide +kernel
theorem dX5_hinders_52 : decode cX5_hinders 52 = .ok (.goto 4, 3) := by decide +kernel
theorem dX5_hinders_55 : decode cX5_hinders 55 = .ok (.iconst 0, 1) := by decide +kernel
theorem dX5_hinders_56 : decode cX5_hinders 56 = .ok (.ior, 1) := by decide +kernel
theorem dX5_hinders_57 : decode cX5_hinders 57 = .ok (.ireturn, 1) := by decide +kernel
def tab_X5_hinders : List (Nat × Sem) := [(0, op_al 0 1), (1, op_il 1 2), (2, op_il 2 3), (3, op_ic 5760 6), (6, op_callV 7 sp_X5_isYoung 4 0 9), (9, op_if (fun x => x = 0) 16 12), (12, op_ic 1 13), (13, op_go 17), (16, op_ic 0 17), (17, op_al 0 18), (18, op_il 1 19), (19, op_il 2 20), (20, op_callV 7 sp_X5_areKin 3 0 23), (23, op_if (fun x => x = 0) 30 26), (26, op_ic 2 27), (27, op_go 31), (30, op_ic 0 31), (31, op_bin (fun x y => x ||| y) 32), (32, op_al 0 33), (33, op_gf 7 5 36), (36, op_il 1 37), (37, op_bald 38), (38, op_if (fun x => ¬ x = 0) 50 41), (41, op_al 0 42), (42, op_gf 7 5 45), (45, op_il 2 46), (46, op_bald 47), (47, op_if (fun x => x = 0) 55 50), (50, op_ic 8 52), (52, op_go 56), (55, op_ic 0 56), (56, op_bin (fun x y => x ||| y) 57), (57, op_iret)]
set_option maxRecDepth 20000 in
theorem tok_X5_hinders : ∀ q ∈ tab_X5_hinders, Snd RX5 cX5_hinders 3 2 0 (some .int) q.1 q.2 := by
  unfold tab_X5_hinders
  refine tcons (ok_aload_n dX5_hinders_0 rfl rfl) ?_
  refine tcons (ok_iload_n dX5_hinders_1 rfl rfl) ?_
  refine tcons (ok_iload_n dX5_hinders_2 rfl rfl) ?_
  refine tcons (ok_sipush dX5_hinders_3 rfl rfl) ?_
  refine tcons (ok_invokevirtual M_X5_isYoung (C := RX5) (T := TX5) (nf := 33) rfl w_1152 w_1154 w_24 w_49 w_1155 ⟨rfl, by decide, by decide, by decide +kernel⟩ (by decide) (by decide) dX5_hinders_6 rfl) ?_
  refine tcons (ok_if_eq dX5_hinders_9 rfl rfl) ?_
  refine tcons (ok_iconst dX5_hinders_12 rfl rfl) ?_
  refine tcons (ok_goto dX5_hinders_13 rfl) ?_
  refine tcons (ok_iconst dX5_hinders_16 rfl rfl) ?_
  refine tcons (ok_aload_n dX5_hinders_17 rfl rfl) ?_
  refine tcons (ok_iload_n dX5_hinders_18 rfl rfl) ?_
  refine tcons (ok_iload_n dX5_hinders_19 rfl rfl) ?_
  refine tcons (ok_invokevirtual M_X5_areKin (C := RX5) (T := TX5) (nf := 33) rfl w_1156 w_1158 w_25 w_49 w_1159 ⟨rfl, by decide, by decide, by decide +kernel⟩ (by decide) (by decide) dX5_hinders_20 rfl) ?_
  refine tcons (ok_if_eq dX5_hinders_23 rfl rfl) ?_
  refine tcons (ok_iconst dX5_hinders_26 rfl rfl) ?_
  refine tcons (ok_goto dX5_hinders_27 rfl) ?_
  refine tcons (ok_iconst dX5_hinders_30 rfl rfl) ?_
  refine tcons (ok_ior dX5_hinders_31 rfl) ?_
  refine tcons (ok_aload_n dX5_hinders_32 rfl rfl) ?_
  refine tcons (ok_getfield (C := RX5) (T := TX5) (n := 33) rfl in_X5 (by decide) w_998 dX5_hinders_33 rfl) ?_
  refine tcons (ok_iload_n dX5_hinders_36 rfl rfl) ?_
  refine tcons (ok_baload dX5_hinders_37 rfl) ?_
  refine tcons (ok_if_ne dX5_hinders_38 rfl rfl) ?_
  refine tcons (ok_aload_n dX5_hinders_41 rfl rfl) ?_
  refine tcons (ok_getfield (C := RX5) (T := TX5) (n := 33) rfl in_X5 (by decide) w_998 dX5_hinders_42 rfl) ?_
  refine tcons (ok_iload_n dX5_hinders_45 rfl rfl) ?_
  refine tcons (ok_baload dX5_hinders_46 rfl) ?_
  refine tcons (ok_if_eq dX5_hinders_47 rfl rfl) ?_
  refine tcons (ok_bipush dX5_hinders_50 rfl rfl) ?_
  refine tcons (ok_goto dX5_hinders_52 rfl) ?_
  refine tcons (ok_iconst dX5_hinders_55 rfl rfl) ?_
  refine tcons (ok_ior dX5_hinders_56 rfl) ?_
  refine tcons (ok_ireturn rfl dX5_hinders_57) ?_
  exact fun _ h => nomatch h
def sp_X5_hinders : Spc := fun av s N _ => match av with
  | [.inl (.inr (20, 0)), .inl (.inl p), .inl (.inl q)] => MI s ∧ Ib p 24 ∧ Ib q 24 ∧ N (some (aI (hndM s p q))) s
  | _ => False
set_option maxRecDepth 20000 in
set_option maxHeartbeats 2000000 in
theorem M_X5_hinders : AMet yX5_hinders cX5_hinders 3 (some .int) 2 0 sp_X5_hinders := by
  refine AMet.mk (own := RX5) (by decide) rfl [0, 1, 2] rfl tok_X5_hinders 200 ?_
  intro av s0 N X h
  unfold sp_X5_hinders at h
  split at h
  rotate_left
  · exact h.elim
  refine ⟨fun _ => none, ?_, fun pc P hP => nomatch hP⟩
  repeat' (first | apply And.intro | (intro q; exact absurd q (by decide)) | intro _)
  all_goals first | decide | (exact (rfl : (0 : Nat) = 0)) | (exact Nat.le_of_ble_eq_true rfl) | (exact h.1) | (exact h.2.1) | (exact h.2.2.1) | (simp_all [-Int32.not_lt, -Int32.not_le, hndM, ykP, iteP]; done) | (simp_all [-Int32.not_lt, -Int32.not_le, ← Int32.not_le, hndM, ykP, iteP]; done) | (simp_all [hndM, ykP, iteP]; done)
def dskP (k : Int32) : Prop := k = 1 ∨ k = 2 ∨ k = 8
theorem plc_Ib {p q k : Int32} (hp : Ib p 24) (hq : Ib q 24) : Ib (plc p q k) 1728 := by
  obtain ⟨i, hi, rfl⟩ := Ib_nI hp (by decide)
  obtain ⟨j, hj, rfl⟩ := Ib_nI hq (by decide)
  have e : ∃ z, z < 576 ∧ (if nI i < nI j then 24 * nI i + nI j else 24 * nI j + nI i) = nI z := by
    split
    · exact ⟨24 * i + j, by omega, row24 i j⟩
    · exact ⟨24 * j + i, by omega, row24 j i⟩
  obtain ⟨z, hz, e⟩ := e
  unfold plc
  rw [e, row3]
  have e2 : ∃ w, w < 3 ∧ (if k = 1 then (0 : Int32) else if k = 2 then 1 else 2) = nI w := by
    split
    · exact ⟨0, by omega, rfl⟩
    · split
      · exact ⟨1, by omega, rfl⟩
      · exact ⟨2, by omega, rfl⟩
  obtain ⟨w, hw, e2⟩ := e2
  rw [e2, nI_add]
  exact nIb (by omega) (by decide)
def cdP (s : Sg) (p q k : Int32) : Prop := ¬ hndM s p q &&& k = 0 ∧ s.2.1 29 0 (cl (plc p q k)) = 0 ∧ (k = 1 → ¬ ykP s p q 5040) ∧ (k = 2 → kinM s p q - kinM s p q / 100 * 100 = 0 ∧ 2 < kinM s p q / 100)
theorem dX5_canDispense_0 : decode cX5_canDispense 0 = .ok (.aload_n 0, 1) := by decide +kernel
theorem dX5_canDispense_1 : decode cX5_canDispense 1 = .ok (.iload_n 1, 1) := by decide +kernel
theorem dX5_canDispense_2 : decode cX5_canDispense 2 = .ok (.iload_n 2, 1) := by decide +kernel
theorem dX5_canDispense_3 : decode cX5_canDispense 3 = .ok (.invokevirtual 135, 3) := by decide +kernel
theorem dX5_canDispense_6 : decode cX5_canDispense 6 = .ok (.iload_n 3, 1) := by decide +kernel
theorem dX5_canDispense_7 : decode cX5_canDispense 7 = .ok (.iand, 1) := by decide +kernel
theorem dX5_canDispense_8 : decode cX5_canDispense 8 = .ok (.ifCond .eq 17, 3) := by decide +kernel
theorem dX5_canDispense_11 : decode cX5_canDispense 11 = .ok (.aload_n 0, 1) := by decide +kernel
theorem dX5_canDispense_12 : decode cX5_canDispense 12 = .ok (.getfield 32, 3) := by decide +kernel
theorem dX5_canDispense_15 : decode cX5_canDispense 15 = .ok (.iload_n 1, 1) := by decide +kernel
theorem dX5_canDispense_16 : decode cX5_canDispense 16 = .ok (.iload_n 2, 1) := by decide +kernel
theorem dX5_canDispense_17 : decode cX5_canDispense 17 = .ok (.iload_n 3, 1) := by decide +kernel
theorem dX5_canDispense_18 : decode cX5_canDispense 18 = .ok (.invokestatic 138, 3) := by decide +kernel
theorem dX5_canDispense_21 : decode cX5_canDispense 21 = .ok (.baload, 1) := by decide +kernel
theorem dX5_canDispense_22 : decode cX5_canDispense 22 = .ok (.ifCond .eq 5, 3) := by decide +kernel
theorem dX5_canDispense_25 : decode cX5_canDispense 25 = .ok (.iconst 0, 1) := by decide +kernel
theorem dX5_canDispense_26 : decode cX5_canDispense 26 = .ok (.ireturn, 1) := by decide +kernel
theorem dX5_canDispense_27 : decode cX5_canDispense 27 = .ok (.aload_n 0, 1) := by decide +kernel
theorem dX5_canDispense_28 : decode cX5_canDispense 28 = .ok (.iload_n 1, 1) := by decide +kernel
theorem dX5_canDispense_29 : decode cX5_canDispense 29 = .ok (.iload_n 2, 1) := by decide +kernel
theorem dX5_canDispense_30 : decode cX5_canDispense 30 = .ok (.invokevirtual 124, 3) := by decide +kernel
theorem dX5_canDispense_33 : decode cX5_canDispense 33 = .ok (.istore 4, 2) := by decide +kernel
theorem dX5_canDispense_35 : decode cX5_canDispense 35 = .ok (.iload_n 3, 1) := by decide +kernel
theorem dX5_canDispense_36 : decode cX5_canDispense 36 = .ok (.iconst 1, 1) := by decide +kernel
theorem dX5_canDispense_37 : decode cX5_canDispense 37 = .ok (.if_icmp .ne 23, 3) := by decide +kernel
theorem dX5_canDispense_40 : decode cX5_canDispense 40 = .ok (.aload_n 0, 1) := by decide +kernel
theorem dX5_canDispense_41 : decode cX5_canDispense 41 = .ok (.iload_n 1, 1) := by decide +kernel
theorem dX5_canDispense_42 : decode cX5_canDispense 42 = .ok (.iload_n 2, 1) := by decide +kernel
theorem dX5_canDispense_43 : decode cX5_canDispense 43 = .ok (.sipush 5040, 3) := by decide +kernel
theorem dX5_canDispense_46 : decode cX5_canDispense 46 = .ok (.invokevirtual 128, 3) := by decide +kernel
theorem dX5_canDispense_49 : decode cX5_canDispense 49 = .ok (.ifCond .ne 7, 3) := by decide +kernel
theorem dX5_canDispense_52 : decode cX5_canDispense 52 = .ok (.iconst 1, 1) := by decide +kernel
theorem dX5_canDispense_53 : decode cX5_canDispense 53 = .ok (.goto 34, 3) := by decide +kernel
theorem dX5_canDispense_56 : decode cX5_canDispense 56 = .ok (.iconst 0, 1) := by decide +kernel
theorem dX5_canDispense_57 : decode cX5_canDispense 57 = .ok (.goto 30, 3) := by decide +kernel
theorem dX5_canDispense_60 : decode cX5_canDispense 60 = .ok (.iload_n 3, 1) := by decide +kernel
theorem dX5_canDispense_61 : decode cX5_canDispense 61 = .ok (.iconst 2, 1) := by decide +kernel
theorem dX5_canDispense_62 : decode cX5_canDispense 62 = .ok (.if_icmp .ne 20, 3) := by decide +kernel
theorem dX5_canDispense_65 : decode cX5_canDispense 65 = .ok (.iload 4, 2) := by decide +kernel
theorem dX5_canDispense_67 : decode cX5_canDispense 67 = .ok (.bipush 100, 2) := by decide +kernel
theorem dX5_canDispense_69 : decode cX5_canDispense 69 = .ok (.irem, 1) := by decide +kernel
theorem dX5_canDispense_70 : decode cX5_canDispense 70 = .ok (.ifCond .ne 16, 3) := by decide +kernel
theorem dX5_canDispense_73 : decode cX5_canDispense 73 = .ok (.iload 4, 2) := by decide +kernel
theorem dX5_canDispense_75 : decode cX5_canDispense 75 = .ok (.bipush 100, 2) := by decide +kernel
theorem dX5_canDispense_77 : decode cX5_canDispense 77 = .ok (.idiv, 1) := by decide +kernel
theorem dX5_canDispense_78 : decode cX5_canDispense 78 = .ok (.iconst 2, 1) := by decide +kernel
theorem dX5_canDispense_79 : decode cX5_canDispense 79 = .ok (.if_icmp .le 7, 3) := by decide +kernel
theorem dX5_canDispense_82 : decode cX5_canDispense 82 = .ok (.iconst 1, 1) := by decide +kernel
theorem dX5_canDispense_83 : decode cX5_canDispense 83 = .ok (.goto 4, 3) := by decide +kernel
theorem dX5_canDispense_86 : decode cX5_canDispense 86 = .ok (.iconst 0, 1) := by decide +kernel
theorem dX5_canDispense_87 : decode cX5_canDispense 87 = .ok (.ireturn, 1) := by decide +kernel
def tab_X5_canDispense : List (Nat × Sem) := [(0, op_al 0 1), (1, op_il 1 2), (2, op_il 2 3), (3, op_callV 7 sp_X5_hinders 3 0 6), (6, op_il 3 7), (7, op_bin (fun x y => x &&& y) 8), (8, op_if (fun x => x = 0) 25 11), (11, op_al 0 12), (12, op_gf 7 9 15), (15, op_il 1 16), (16, op_il 2 17), (17, op_il 3 18), (18, op_call sp_X5_placeOf 3 0 21), (21, op_bald 22), (22, op_if (fun x => x = 0) 27 25), (25, op_ic 0 26), (26, op_zret), (27, op_al 0 28), (28, op_il 1 29), (29, op_il 2 30), (30, op_callV 7 sp_X5_kinOf 3 0 33), (33, op_is 4 35), (35, op_il 3 36), (36, op_ic 1 37), (37, op_cmp (fun x y => ¬ x = y) 60 40), (40, op_al 0 41), (41, op_il 1 42), (42, op_il 2 43), (43, op_ic 5040 46), (46, op_callV 7 sp_X5_isYoung 4 0 49), (49, op_if (fun x => ¬ x = 0) 56 52), (52, op_ic 1 53), (53, op_go 87), (56, op_ic 0 57), (57, op_go 87), (60, op_il 3 61), (61, op_ic 2 62), (62, op_cmp (fun x y => ¬ x = y) 82 65), (65, op_il 4 67), (67, op_ic 100 69), (69, op_dv (fun x y => x - x / y * y) 70), (70, op_if (fun x => ¬ x = 0) 86 73), (73, op_il 4 75), (75, op_ic 100 77), (77, op_dv (fun x y => x / y) 78), (78, op_ic 2 79), (79, op_cmp (fun x y => x ≤ y) 86 82), (82, op_ic 1 83), (83, op_go 87), (86, op_ic 0 87), (87, op_zret)]
set_option maxRecDepth 20000 in
theorem tok_X5_canDispense : ∀ q ∈ tab_X5_canDispense, Snd RX5 cX5_canDispense 5 3 0 (some .boolean) q.1 q.2 := by
  unfold tab_X5_canDispense
  refine tcons (ok_aload_n dX5_canDispense_0 rfl rfl) ?_
  refine tcons (ok_iload_n dX5_canDispense_1 rfl rfl) ?_
  refine tcons (ok_iload_n dX5_canDispense_2 rfl rfl) ?_
  refine tcons (ok_invokevirtual M_X5_hinders (C := RX5) (T := TX5) (nf := 33) rfl w_1148 w_1150 w_23 w_49 w_1151 ⟨rfl, by decide, by decide, by decide +kernel⟩ (by decide) (by decide) dX5_canDispense_3 rfl) ?_
  refine tcons (ok_iload_n dX5_canDispense_6 rfl rfl) ?_
  refine tcons (ok_iand dX5_canDispense_7 rfl) ?_
  refine tcons (ok_if_eq dX5_canDispense_8 rfl rfl) ?_
  refine tcons (ok_aload_n dX5_canDispense_11 rfl rfl) ?_
  refine tcons (ok_getfield (C := RX5) (T := TX5) (n := 33) rfl in_X5 (by decide) w_1002 dX5_canDispense_12 rfl) ?_
  refine tcons (ok_iload_n dX5_canDispense_15 rfl rfl) ?_
  refine tcons (ok_iload_n dX5_canDispense_16 rfl rfl) ?_
  refine tcons (ok_iload_n dX5_canDispense_17 rfl rfl) ?_
  refine tcons (ok_invokestatic M_X5_placeOf w_1164 w_1165 w_49 w_1166 ⟨by decide, by decide, by decide +kernel⟩ (by decide) (by decide) dX5_canDispense_18 rfl) ?_
  refine tcons (ok_baload dX5_canDispense_21 rfl) ?_
  refine tcons (ok_if_eq dX5_canDispense_22 rfl rfl) ?_
  refine tcons (ok_iconst dX5_canDispense_25 rfl rfl) ?_
  refine tcons (ok_zreturn rfl (Or.inl rfl) dX5_canDispense_26) ?_
  refine tcons (ok_aload_n dX5_canDispense_27 rfl rfl) ?_
  refine tcons (ok_iload_n dX5_canDispense_28 rfl rfl) ?_
  refine tcons (ok_iload_n dX5_canDispense_29 rfl rfl) ?_
  refine tcons (ok_invokevirtual M_X5_kinOf (C := RX5) (T := TX5) (nf := 33) rfl w_1160 w_1162 w_26 w_49 w_1163 ⟨rfl, by decide, by decide, by decide +kernel⟩ (by decide) (by decide) dX5_canDispense_30 rfl) ?_
  refine tcons (ok_istore dX5_canDispense_33 (by decide) rfl) ?_
  refine tcons (ok_iload_n dX5_canDispense_35 rfl rfl) ?_
  refine tcons (ok_iconst dX5_canDispense_36 rfl rfl) ?_
  refine tcons (ok_icmp_ne dX5_canDispense_37 rfl rfl) ?_
  refine tcons (ok_aload_n dX5_canDispense_40 rfl rfl) ?_
  refine tcons (ok_iload_n dX5_canDispense_41 rfl rfl) ?_
  refine tcons (ok_iload_n dX5_canDispense_42 rfl rfl) ?_
  refine tcons (ok_sipush dX5_canDispense_43 rfl rfl) ?_
  refine tcons (ok_invokevirtual M_X5_isYoung (C := RX5) (T := TX5) (nf := 33) rfl w_1152 w_1154 w_24 w_49 w_1155 ⟨rfl, by decide, by decide, by decide +kernel⟩ (by decide) (by decide) dX5_canDispense_46 rfl) ?_
  refine tcons (ok_if_ne dX5_canDispense_49 rfl rfl) ?_
  refine tcons (ok_iconst dX5_canDispense_52 rfl rfl) ?_
  refine tcons (ok_goto dX5_canDispense_53 rfl) ?_
  refine tcons (ok_iconst dX5_canDispense_56 rfl rfl) ?_
  refine tcons (ok_goto dX5_canDispense_57 rfl) ?_
  refine tcons (ok_iload_n dX5_canDispense_60 rfl rfl) ?_
  refine tcons (ok_iconst dX5_canDispense_61 rfl rfl) ?_
  refine tcons (ok_icmp_ne dX5_canDispense_62 rfl rfl) ?_
  refine tcons (ok_iload dX5_canDispense_65 rfl) ?_
  refine tcons (ok_bipush dX5_canDispense_67 rfl rfl) ?_
  refine tcons (ok_irem dX5_canDispense_69 rfl) ?_
  refine tcons (ok_if_ne dX5_canDispense_70 rfl rfl) ?_
  refine tcons (ok_iload dX5_canDispense_73 rfl) ?_
  refine tcons (ok_bipush dX5_canDispense_75 rfl rfl) ?_
  refine tcons (ok_idiv dX5_canDispense_77 rfl) ?_
  refine tcons (ok_iconst dX5_canDispense_78 rfl rfl) ?_
  refine tcons (ok_icmp_le dX5_canDispense_79 rfl rfl) ?_
  refine tcons (ok_iconst dX5_canDispense_82 rfl rfl) ?_
  refine tcons (ok_goto dX5_canDispense_83 rfl) ?_
  refine tcons (ok_iconst dX5_canDispense_86 rfl rfl) ?_
  refine tcons (ok_zreturn rfl (Or.inl rfl) dX5_canDispense_87) ?_
  exact fun _ h => nomatch h
def sp_X5_canDispense : Spc := fun av s N _ => match av with
  | [.inl (.inr (20, 0)), .inl (.inl p), .inl (.inl q), .inl (.inl k)] => MI s ∧ Ib p 24 ∧ Ib q 24 ∧ br (cdP s p q k) N s
  | _ => False
set_option maxRecDepth 20000 in
set_option maxHeartbeats 2000000 in
theorem M_X5_canDispense : AMet yX5_canDispense cX5_canDispense 5 (some .boolean) 3 0 sp_X5_canDispense := by
  refine AMet.mk (own := RX5) (by decide) rfl [0, 1, 2, 3, 4] rfl tok_X5_canDispense 200 ?_
  intro av s0 N X h
  unfold sp_X5_canDispense at h
  split at h
  rotate_left
  · exact h.elim
  refine ⟨fun _ => none, ?_, fun pc P hP => nomatch hP⟩
  repeat' (first | apply And.intro | (intro q; exact absurd q (by decide)) | intro _)
  all_goals first | decide | (exact (rfl : (0 : Nat) = 0)) | (exact Nat.le_of_ble_eq_true rfl) | (exact h.1) | (exact h.2.1) | (exact h.2.2.1) | (exact plc_Ib h.2.1 h.2.2.1) | (simp_all [-Int32.not_lt, -Int32.not_le, br, cdP, ykP]; done) | (simp_all [-Int32.not_lt, -Int32.not_le, ← Int32.not_le, br, cdP, ykP]; done) | (simp_all [br, cdP, ykP]; done)
theorem dX5_dispense_0 : decode cX5_dispense 0 = .ok (.aload_n 0, 1) := by decide +kernel
theorem dX5_dispense_1 : decode cX5_dispense 1 = .ok (.iload_n 1, 1) := by decide +kernel
theorem dX5_dispense_2 : decode cX5_dispense 2 = .ok (.invokevirtual 106, 3) := by decide +kernel
theorem dX5_dispense_5 : decode cX5_dispense 5 = .ok (.ifCond .eq 15, 3) := by decide +kernel
theorem dX5_dispense_8 : decode cX5_dispense 8 = .ok (.aload_n 0, 1) := by decide +kernel
theorem dX5_dispense_9 : decode cX5_dispense 9 = .ok (.iload_n 2, 1) := by decide +kernel
theorem dX5_dispense_10 : decode cX5_dispense 10 = .ok (.invokevirtual 106, 3) := by decide +kernel
theorem dX5_dispense_13 : decode cX5_dispense 13 = .ok (.ifCond .eq 7, 3) := by decide +kernel
theorem dX5_dispense_16 : decode cX5_dispense 16 = .ok (.iconst 1, 1) := by decide +kernel
theorem dX5_dispense_17 : decode cX5_dispense 17 = .ok (.goto 4, 3) := by decide +kernel
theorem dX5_dispense_20 : decode cX5_dispense 20 = .ok (.iconst 0, 1) := by decide +kernel
theorem dX5_dispense_21 : decode cX5_dispense 21 = .ok (.istore 4, 2) := by decide +kernel
theorem dX5_dispense_23 : decode cX5_dispense 23 = .ok (.iload_n 1, 1) := by decide +kernel
theorem dX5_dispense_24 : decode cX5_dispense 24 = .ok (.iload_n 2, 1) := by decide +kernel
theorem dX5_dispense_25 : decode cX5_dispense 25 = .ok (.if_icmp .eq 23, 3) := by decide +kernel
theorem dX5_dispense_28 : decode cX5_dispense 28 = .ok (.iload_n 3, 1) := by decide +kernel
theorem dX5_dispense_29 : decode cX5_dispense 29 = .ok (.iconst 1, 1) := by decide +kernel
theorem dX5_dispense_30 : decode cX5_dispense 30 = .ok (.if_icmp .eq 14, 3) := by decide +kernel
theorem dX5_dispense_33 : decode cX5_dispense 33 = .ok (.iload_n 3, 1) := by decide +kernel
theorem dX5_dispense_34 : decode cX5_dispense 34 = .ok (.iconst 2, 1) := by decide +kernel
theorem dX5_dispense_35 : decode cX5_dispense 35 = .ok (.if_icmp .eq 9, 3) := by decide +kernel
theorem dX5_dispense_38 : decode cX5_dispense 38 = .ok (.iload_n 3, 1) := by decide +kernel
theorem dX5_dispense_39 : decode cX5_dispense 39 = .ok (.bipush 8, 2) := by decide +kernel
theorem dX5_dispense_41 : decode cX5_dispense 41 = .ok (.if_icmp .ne 7, 3) := by decide +kernel
theorem dX5_dispense_44 : decode cX5_dispense 44 = .ok (.iconst 1, 1) := by decide +kernel
theorem dX5_dispense_45 : decode cX5_dispense 45 = .ok (.goto 4, 3) := by decide +kernel
theorem dX5_dispense_48 : decode cX5_dispense 48 = .ok (.iconst 0, 1) := by decide +kernel
theorem dX5_dispense_49 : decode cX5_dispense 49 = .ok (.istore 5, 2) := by decide +kernel
theorem dX5_dispense_51 : decode cX5_dispense 51 = .ok (.aload_n 0, 1) := by decide +kernel
theorem dX5_dispense_52 : decode cX5_dispense 52 = .ok (.iload 4, 2) := by decide +kernel
theorem dX5_dispense_54 : decode cX5_dispense 54 = .ok (.ifCond .ne 7, 3) := by decide +kernel
theorem dX5_dispense_57 : decode cX5_dispense 57 = .ok (.iconst 1, 1) := by decide +kernel
theorem dX5_dispense_58 : decode cX5_dispense 58 = .ok (.goto 27, 3) := by decide +kernel
theorem dX5_dispense_61 : decode cX5_dispense 61 = .ok (.iload 5, 2) := by decide +kernel
theorem dX5_dispense_63 : decode cX5_dispense 63 = .ok (.ifCond .ne 7, 3) := by decide +kernel
theorem dX5_dispense_66 : decode cX5_dispense 66 = .ok (.iconst 2, 1) := by decide +kernel
theorem dX5_dispense_67 : decode cX5_dispense 67 = .ok (.goto 18, 3) := by decide +kernel
theorem dX5_dispense_70 : decode cX5_dispense 70 = .ok (.aload_n 0, 1) := by decide +kernel
theorem dX5_dispense_71 : decode cX5_dispense 71 = .ok (.iload_n 1, 1) := by decide +kernel
theorem dX5_dispense_72 : decode cX5_dispense 72 = .ok (.iload_n 2, 1) := by decide +kernel
theorem dX5_dispense_73 : decode cX5_dispense 73 = .ok (.iload_n 3, 1) := by decide +kernel
theorem dX5_dispense_74 : decode cX5_dispense 74 = .ok (.invokevirtual 142, 3) := by decide +kernel
theorem dX5_dispense_77 : decode cX5_dispense 77 = .ok (.ifCond .eq 7, 3) := by decide +kernel
theorem dX5_dispense_80 : decode cX5_dispense 80 = .ok (.iconst 0, 1) := by decide +kernel
theorem dX5_dispense_81 : decode cX5_dispense 81 = .ok (.goto 4, 3) := by decide +kernel
theorem dX5_dispense_84 : decode cX5_dispense 84 = .ok (.iconst 3, 1) := by decide +kernel
theorem dX5_dispense_85 : decode cX5_dispense 85 = .ok (.invokevirtual 114, 3) := by decide +kernel
theorem dX5_dispense_88 : decode cX5_dispense 88 = .ok (.ifCond .ne 15, 3) := by decide +kernel
theorem dX5_dispense_91 : decode cX5_dispense 91 = .ok (.aload_n 0, 1) := by decide +kernel
theorem dX5_dispense_92 : decode cX5_dispense 92 = .ok (.getfield 32, 3) := by decide +kernel
theorem dX5_dispense_95 : decode cX5_dispense 95 = .ok (.iload_n 1, 1) := by decide +kernel
theorem dX5_dispense_96 : decode cX5_dispense 96 = .ok (.iload_n 2, 1) := by decide +kernel
theorem dX5_dispense_97 : decode cX5_dispense 97 = .ok (.iload_n 3, 1) := by decide +kernel
theorem dX5_dispense_98 : decode cX5_dispense 98 = .ok (.invokestatic 138, 3) := by decide +kernel
theorem dX5_dispense_101 : decode cX5_dispense 101 = .ok (.iconst 1, 1) := by decide +kernel
theorem dX5_dispense_102 : decode cX5_dispense 102 = .ok (.bastore, 1) := by decide +kernel
theorem dX5_dispense_103 : decode cX5_dispense 103 = .ok (.return_, 1) := by decide +kernel
def tab_X5_dispense : List (Nat × Sem) := [(0, op_al 0 1), (1, op_il 1 2), (2, op_callV 7 sp_X5_isPerson 2 0 5), (5, op_if (fun x => x = 0) 20 8), (8, op_al 0 9), (9, op_il 2 10), (10, op_callV 7 sp_X5_isPerson 2 0 13), (13, op_if (fun x => x = 0) 20 16), (16, op_ic 1 17), (17, op_go 21), (20, op_ic 0 21), (21, op_is 4 23), (23, op_il 1 24), (24, op_il 2 25), (25, op_cmp (fun x y => x = y) 48 28), (28, op_il 3 29), (29, op_ic 1 30), (30, op_cmp (fun x y => x = y) 44 33), (33, op_il 3 34), (34, op_ic 2 35), (35, op_cmp (fun x y => x = y) 44 38), (38, op_il 3 39), (39, op_ic 8 41), (41, op_cmp (fun x y => ¬ x = y) 48 44), (44, op_ic 1 45), (45, op_go 49), (48, op_ic 0 49), (49, op_is 5 51), (51, op_al 0 52), (52, op_il 4 54), (54, op_if (fun x => ¬ x = 0) 61 57), (57, op_ic 1 58), (58, op_go 85), (61, op_il 5 63), (63, op_if (fun x => ¬ x = 0) 70 66), (66, op_ic 2 67), (67, op_go 85), (70, op_al 0 71), (71, op_il 1 72), (72, op_il 2 73), (73, op_il 3 74), (74, op_callV 7 sp_X5_canDispense 4 0 77), (77, op_if (fun x => x = 0) 84 80), (80, op_ic 0 81), (81, op_go 85), (84, op_ic 3 85), (85, op_callV 7 sp_X5_fails 2 0 88), (88, op_if (fun x => ¬ x = 0) 103 91), (91, op_al 0 92), (92, op_gf 7 9 95), (95, op_il 1 96), (96, op_il 2 97), (97, op_il 3 98), (98, op_call sp_X5_placeOf 3 0 101), (101, op_ic 1 102), (102, op_bast 103), (103, op_vret)]
set_option maxRecDepth 20000 in
theorem tok_X5_dispense : ∀ q ∈ tab_X5_dispense, Snd RX5 cX5_dispense 6 4 0 none q.1 q.2 := by
  unfold tab_X5_dispense
  refine tcons (ok_aload_n dX5_dispense_0 rfl rfl) ?_
  refine tcons (ok_iload_n dX5_dispense_1 rfl rfl) ?_
  refine tcons (ok_invokevirtual M_X5_isPerson (C := RX5) (T := TX5) (nf := 33) rfl w_1101 w_1103 w_19 w_49 w_1104 ⟨rfl, by decide, by decide, by decide +kernel⟩ (by decide) (by decide) dX5_dispense_2 rfl) ?_
  refine tcons (ok_if_eq dX5_dispense_5 rfl rfl) ?_
  refine tcons (ok_aload_n dX5_dispense_8 rfl rfl) ?_
  refine tcons (ok_iload_n dX5_dispense_9 rfl rfl) ?_
  refine tcons (ok_invokevirtual M_X5_isPerson (C := RX5) (T := TX5) (nf := 33) rfl w_1101 w_1103 w_19 w_49 w_1104 ⟨rfl, by decide, by decide, by decide +kernel⟩ (by decide) (by decide) dX5_dispense_10 rfl) ?_
  refine tcons (ok_if_eq dX5_dispense_13 rfl rfl) ?_
  refine tcons (ok_iconst dX5_dispense_16 rfl rfl) ?_
  refine tcons (ok_goto dX5_dispense_17 rfl) ?_
  refine tcons (ok_iconst dX5_dispense_20 rfl rfl) ?_
  refine tcons (ok_istore dX5_dispense_21 (by decide) rfl) ?_
  refine tcons (ok_iload_n dX5_dispense_23 rfl rfl) ?_
  refine tcons (ok_iload_n dX5_dispense_24 rfl rfl) ?_
  refine tcons (ok_icmp_eq dX5_dispense_25 rfl rfl) ?_
  refine tcons (ok_iload_n dX5_dispense_28 rfl rfl) ?_
  refine tcons (ok_iconst dX5_dispense_29 rfl rfl) ?_
  refine tcons (ok_icmp_eq dX5_dispense_30 rfl rfl) ?_
  refine tcons (ok_iload_n dX5_dispense_33 rfl rfl) ?_
  refine tcons (ok_iconst dX5_dispense_34 rfl rfl) ?_
  refine tcons (ok_icmp_eq dX5_dispense_35 rfl rfl) ?_
  refine tcons (ok_iload_n dX5_dispense_38 rfl rfl) ?_
  refine tcons (ok_bipush dX5_dispense_39 rfl rfl) ?_
  refine tcons (ok_icmp_ne dX5_dispense_41 rfl rfl) ?_
  refine tcons (ok_iconst dX5_dispense_44 rfl rfl) ?_
  refine tcons (ok_goto dX5_dispense_45 rfl) ?_
  refine tcons (ok_iconst dX5_dispense_48 rfl rfl) ?_
  refine tcons (ok_istore dX5_dispense_49 (by decide) rfl) ?_
  refine tcons (ok_aload_n dX5_dispense_51 rfl rfl) ?_
  refine tcons (ok_iload dX5_dispense_52 rfl) ?_
  refine tcons (ok_if_ne dX5_dispense_54 rfl rfl) ?_
  refine tcons (ok_iconst dX5_dispense_57 rfl rfl) ?_
  refine tcons (ok_goto dX5_dispense_58 rfl) ?_
  refine tcons (ok_iload dX5_dispense_61 rfl) ?_
  refine tcons (ok_if_ne dX5_dispense_63 rfl rfl) ?_
  refine tcons (ok_iconst dX5_dispense_66 rfl rfl) ?_
  refine tcons (ok_goto dX5_dispense_67 rfl) ?_
  refine tcons (ok_aload_n dX5_dispense_70 rfl rfl) ?_
  refine tcons (ok_iload_n dX5_dispense_71 rfl rfl) ?_
  refine tcons (ok_iload_n dX5_dispense_72 rfl rfl) ?_
  refine tcons (ok_iload_n dX5_dispense_73 rfl rfl) ?_
  refine tcons (ok_invokevirtual M_X5_canDispense (C := RX5) (T := TX5) (nf := 33) rfl w_1144 w_1146 w_22 w_49 w_1147 ⟨rfl, by decide, by decide, by decide +kernel⟩ (by decide) (by decide) dX5_dispense_74 rfl) ?_
  refine tcons (ok_if_eq dX5_dispense_77 rfl rfl) ?_
  refine tcons (ok_iconst dX5_dispense_80 rfl rfl) ?_
  refine tcons (ok_goto dX5_dispense_81 rfl) ?_
  refine tcons (ok_iconst dX5_dispense_84 rfl rfl) ?_
  refine tcons (ok_invokevirtual M_X5_fails (C := RX5) (T := TX5) (nf := 33) rfl w_1112 w_1114 w_20 w_49 w_1115 ⟨rfl, by decide, by decide, by decide +kernel⟩ (by decide) (by decide) dX5_dispense_85 rfl) ?_
  refine tcons (ok_if_ne dX5_dispense_88 rfl rfl) ?_
  refine tcons (ok_aload_n dX5_dispense_91 rfl rfl) ?_
  refine tcons (ok_getfield (C := RX5) (T := TX5) (n := 33) rfl in_X5 (by decide) w_1002 dX5_dispense_92 rfl) ?_
  refine tcons (ok_iload_n dX5_dispense_95 rfl rfl) ?_
  refine tcons (ok_iload_n dX5_dispense_96 rfl rfl) ?_
  refine tcons (ok_iload_n dX5_dispense_97 rfl rfl) ?_
  refine tcons (ok_invokestatic M_X5_placeOf w_1164 w_1165 w_49 w_1166 ⟨by decide, by decide, by decide +kernel⟩ (by decide) (by decide) dX5_dispense_98 rfl) ?_
  refine tcons (ok_iconst dX5_dispense_101 rfl rfl) ?_
  refine tcons (ok_bastore dX5_dispense_102 rfl) ?_
  refine tcons (ok_vreturn rfl dX5_dispense_103) ?_
  exact fun _ h => nomatch h
def sp_X5_dispense : Spc := fun av s N _ => match av with
  | [.inl (.inr (20, 0)), .inl (.inl p), .inl (.inl q), .inl (.inl k)] => MI s ∧ f3 (isP s p ∧ isP s q) (¬ p = q ∧ dskP k) (cdP s p q k) none N s (N none (stS (th s 0) 29 0 (cl (plc p q k)) 1))
  | _ => False
/-- a flag -/
def flg (x : Int32) (P : Prop) : Prop := (x = 1 ∧ P) ∨ (x = 0 ∧ ¬ P)
set_option maxRecDepth 20000 in
set_option maxHeartbeats 2000000 in
theorem M_X5_dispense : AMet yX5_dispense cX5_dispense 6 none 4 0 sp_X5_dispense := by
  refine AMet.mc (own := RX5) (by decide) rfl [0, 1, 2, 3, 4, 5] rfl tok_X5_dispense 200 ?_
  intro av s0 N X h
  unfold sp_X5_dispense at h
  split at h
  rotate_left
  · exact h.elim
  rename_i p q k
  obtain ⟨hM, h⟩ := h
  refine ⟨[(51, fun m u L st s => ∃ a b, u = 0 ∧ L = [(0, .inr (20, 0)), (1, .inl p), (2, .inl q), (3, .inl k), (4, .inl a), (5, .inl b)] ∧ st = [] ∧ s = s0 ∧ flg a (isP s p ∧ isP s q) ∧ flg b (¬ p = q ∧ dskP k))], ?_, ac ?_ an⟩
  · repeat' (first | apply And.intro | (intro q; exact absurd q (by decide)) | intro _)
    all_goals first | decide | (exact Nat.le_of_ble_eq_true rfl) | (exact ⟨0, 6, trivial, _, _, rfl, rfl, rfl, rfl, by simp_all [flg], by simp_all [flg, dskP]⟩)
  · rintro m u L st s ⟨a, b, rfl, rfl, rfl, rfl, ha, hb⟩
    rcases ha with ⟨rfl, ha⟩ | ⟨rfl, ha⟩ <;> rcases hb with ⟨rfl, hb⟩ | ⟨rfl, hb⟩
    all_goals repeat' (first | apply And.intro | (intro q; exact absurd q (by decide)) | intro _)
    all_goals first | decide | (exact Nat.le_of_ble_eq_true rfl) | (exact hM) | (exact Ib_of (MI_p hM ha.1)) | (exact Ib_of (MI_p hM ha.2)) | (exact plc_Ib (Ib_of (MI_p hM ha.1)) (Ib_of (MI_p hM ha.2))) | (simp_all [f3]; done)

