/-! Person's and Vow's constructors -/
theorem w_275 : (.methodLink "VowCourt$Person" 1 ⟨"java/lang/Object", "<init>", "()V"⟩ : Cond) ∈ TB := TB_mem (List.mem_of_getElem? (i := 275) (by decide +kernel)) rfl
theorem w_276 : (.fieldLink "VowCourt$Person" 23 "VowCourt$Person" "born" "I" : Cond) ∈ TB := TB_mem (List.mem_of_getElem? (i := 276) (by decide +kernel)) rfl
theorem w_278 : (.fieldLink "VowCourt$Person" 26 "VowCourt$Person" "homeNow" "I" : Cond) ∈ TB := TB_mem (List.mem_of_getElem? (i := 278) (by decide +kernel)) rfl
theorem w_280 : (.fieldLink "VowCourt$Person" 7 "VowCourt$Person" "riteNow" "I" : Cond) ∈ TB := TB_mem (List.mem_of_getElem? (i := 280) (by decide +kernel)) rfl
theorem w_282 : (.fieldLink "VowCourt$Person" 13 "VowCourt$Person" "ordered" "Z" : Cond) ∈ TB := TB_mem (List.mem_of_getElem? (i := 282) (by decide +kernel)) rfl
theorem w_465 : (.methodLink "VowCourt$Vow" 3 ⟨"java/lang/Object", "<init>", "()V"⟩ : Cond) ∈ TB := TB_mem (List.mem_of_getElem? (i := 465) (by decide +kernel)) rfl
theorem w_470 : (.fieldLink "VowCourt$Vow" 24 "VowCourt$Vow" "place" "I" : Cond) ∈ TB := TB_mem (List.mem_of_getElem? (i := 470) (by decide +kernel)) rfl
theorem w_474 : (.fieldLink "VowCourt$Vow" 30 "VowCourt$Vow" "lasting" "I" : Cond) ∈ TB := TB_mem (List.mem_of_getElem? (i := 474) (by decide +kernel)) rfl
theorem w_476 : (.fieldLink "VowCourt$Vow" 33 "VowCourt$Vow" "lacksForm" "Z" : Cond) ∈ TB := TB_mem (List.mem_of_getElem? (i := 476) (by decide +kernel)) rfl
theorem dX2_init_0 : decode cX2_init 0 = .ok (.aload_n 0, 1) := by decide +kernel
theorem dX2_init_1 : decode cX2_init 1 = .ok (.invokespecial 1, 3) := by decide +kernel
theorem dX2_init_4 : decode cX2_init 4 = .ok (.aload_n 0, 1) := by decide +kernel
theorem dX2_init_5 : decode cX2_init 5 = .ok (.iconst 0, 1) := by decide +kernel
theorem dX2_init_6 : decode cX2_init 6 = .ok (.putfield 7, 3) := by decide +kernel
theorem dX2_init_9 : decode cX2_init 9 = .ok (.aload_n 0, 1) := by decide +kernel
theorem dX2_init_10 : decode cX2_init 10 = .ok (.iconst 0, 1) := by decide +kernel
theorem dX2_init_11 : decode cX2_init 11 = .ok (.putfield 13, 3) := by decide +kernel
theorem dX2_init_14 : decode cX2_init 14 = .ok (.aload_n 0, 1) := by decide +kernel
theorem dX2_init_15 : decode cX2_init 15 = .ok (.iconst 0, 1) := by decide +kernel
theorem dX2_init_16 : decode cX2_init 16 = .ok (.putfield 17, 3) := by decide +kernel
theorem dX2_init_19 : decode cX2_init 19 = .ok (.aload_n 0, 1) := by decide +kernel
theorem dX2_init_20 : decode cX2_init 20 = .ok (.iconst 1, 1) := by decide +kernel
theorem dX2_init_21 : decode cX2_init 21 = .ok (.putfield 20, 3) := by decide +kernel
theorem dX2_init_24 : decode cX2_init 24 = .ok (.aload_n 0, 1) := by decide +kernel
theorem dX2_init_25 : decode cX2_init 25 = .ok (.iload_n 1, 1) := by decide +kernel
theorem dX2_init_26 : decode cX2_init 26 = .ok (.putfield 23, 3) := by decide +kernel
theorem dX2_init_29 : decode cX2_init 29 = .ok (.aload_n 0, 1) := by decide +kernel
theorem dX2_init_30 : decode cX2_init 30 = .ok (.iload_n 2, 1) := by decide +kernel
theorem dX2_init_31 : decode cX2_init 31 = .ok (.putfield 26, 3) := by decide +kernel
theorem dX2_init_34 : decode cX2_init 34 = .ok (.return_, 1) := by decide +kernel
def tab_X2_init : List (Nat × Sem) := [(0, op_al 0 1), (1, op_oinit 4), (4, op_al 0 5), (5, op_ic 0 6), (6, op_pf 4 2 9), (9, op_al 0 10), (10, op_ic 0 11), (11, op_pf 4 3 14), (14, op_al 0 15), (15, op_ic 0 16), (16, op_pf 4 4 19), (19, op_al 0 20), (20, op_ic 1 21), (21, op_pf 4 5 24), (24, op_al 0 25), (25, op_il 1 26), (26, op_pf 4 0 29), (29, op_al 0 30), (30, op_il 2 31), (31, op_pf 4 1 34), (34, op_vret)]
set_option maxRecDepth 20000 in
theorem tok_X2_init : ∀ q ∈ tab_X2_init, ISnd RX2 cX2_init 3 1 0 none q.1 q.2 := by
  unfold tab_X2_init
  refine iicons (snd_i (ok_aload_n dX2_init_0 rfl rfl)) ?_
  refine iicons (snd_i (ok_oinit w_275 (by decide) dX2_init_1 rfl)) ?_
  refine iicons (snd_i (ok_aload_n dX2_init_4 rfl rfl)) ?_
  refine iicons (snd_i (ok_iconst dX2_init_5 rfl rfl)) ?_
  refine iicons (snd_i (ok_putfield (C := RX2) (T := TX2) (n := 6) tyX2 .int rfl in_X2 tyX2_ok nmX2 (by decide) rfl w_280 rfl (Or.inl rfl) dX2_init_6 rfl)) ?_
  refine iicons (snd_i (ok_aload_n dX2_init_9 rfl rfl)) ?_
  refine iicons (snd_i (ok_iconst dX2_init_10 rfl rfl)) ?_
  refine iicons (snd_i (ok_putfield (C := RX2) (T := TX2) (n := 6) tyX2 .boolean rfl in_X2 tyX2_ok nmX2 (by decide) rfl w_282 rfl (Or.inr ⟨rfl, zf_4_3⟩) dX2_init_11 rfl)) ?_
  refine iicons (snd_i (ok_aload_n dX2_init_14 rfl rfl)) ?_
  refine iicons (snd_i (ok_iconst dX2_init_15 rfl rfl)) ?_
  refine iicons (snd_i (ok_putfield (C := RX2) (T := TX2) (n := 6) tyX2 .boolean rfl in_X2 tyX2_ok nmX2 (by decide) rfl w_284 rfl (Or.inr ⟨rfl, zf_4_4⟩) dX2_init_16 rfl)) ?_
  refine iicons (snd_i (ok_aload_n dX2_init_19 rfl rfl)) ?_
  refine iicons (snd_i (ok_iconst dX2_init_20 rfl rfl)) ?_
  refine iicons (snd_i (ok_putfield (C := RX2) (T := TX2) (n := 6) tyX2 .boolean rfl in_X2 tyX2_ok nmX2 (by decide) rfl w_286 rfl (Or.inr ⟨rfl, zf_4_5⟩) dX2_init_21 rfl)) ?_
  refine iicons (snd_i (ok_aload_n dX2_init_24 rfl rfl)) ?_
  refine iicons (snd_i (ok_iload_n dX2_init_25 rfl rfl)) ?_
  refine iicons (ok_putfieldF (C := RX2) (T := TX2) (n := 6) tyX2 .int rfl in_X2 tyX2_ok nmX2 (by decide) rfl rfl w_276 rfl (Or.inl rfl) dX2_init_26 rfl) ?_
  refine iicons (snd_i (ok_aload_n dX2_init_29 rfl rfl)) ?_
  refine iicons (snd_i (ok_iload_n dX2_init_30 rfl rfl)) ?_
  refine iicons (snd_i (ok_putfield (C := RX2) (T := TX2) (n := 6) tyX2 .int rfl in_X2 tyX2_ok nmX2 (by decide) rfl w_278 rfl (Or.inl rfl) dX2_init_31 rfl)) ?_
  refine iicons (snd_i (ok_vreturn rfl dX2_init_34)) ?_
  exact fun _ h => nomatch h
def piC (s : Sg) (i : Nat) (b h : Int32) : Sg := stS (stS (stS (stS (stS (stS s 12 i 2 0) 12 i 3 0) 12 i 4 0) 12 i 5 1) 12 i 0 b) 12 i 1 h
def sp_X2_init : Spc := fun av s N _ => match av with
  | [.inl (.inr (12, i)), .inl (.inl b), .inl (.inl h)] => Lv s 12 i ∧ N none (piC s i b h)
  | _ => False
set_option maxRecDepth 20000 in
set_option maxHeartbeats 2000000 in
theorem M_X2_init : AMet yX2_init cX2_init 3 none 1 0 sp_X2_init := by
  refine AMet.mi (own := RX2) (by decide) rfl rfl [0, 1, 2] rfl tok_X2_init 200 ?_
  intro av s0 N X h
  unfold sp_X2_init at h
  split at h
  rotate_left
  · exact h.elim
  repeat' (first | apply And.intro | (intro q; exact absurd q (by decide)) | intro _)
  all_goals first | decide | (exact (rfl : (0 : Nat) = 0)) | (exact Nat.le_of_ble_eq_true rfl) | (exact h.1) | (exact h.2)
theorem dX3_init_0 : decode cX3_init 0 = .ok (.aload_n 0, 1) := by decide +kernel
theorem dX3_init_1 : decode cX3_init 1 = .ok (.invokespecial 3, 3) := by decide +kernel
theorem dX3_init_4 : decode cX3_init 4 = .ok (.aload_n 0, 1) := by decide +kernel
theorem dX3_init_5 : decode cX3_init 5 = .ok (.iconst 0, 1) := by decide +kernel
theorem dX3_init_6 : decode cX3_init 6 = .ok (.putfield 9, 3) := by decide +kernel
theorem dX3_init_9 : decode cX3_init 9 = .ok (.aload_n 0, 1) := by decide +kernel
theorem dX3_init_10 : decode cX3_init 10 = .ok (.iconst (-1), 1) := by decide +kernel
theorem dX3_init_11 : decode cX3_init 11 = .ok (.putfield 15, 3) := by decide +kernel
theorem dX3_init_14 : decode cX3_init 14 = .ok (.aload_n 0, 1) := by decide +kernel
theorem dX3_init_15 : decode cX3_init 15 = .ok (.iload_n 1, 1) := by decide +kernel
theorem dX3_init_16 : decode cX3_init 16 = .ok (.putfield 18, 3) := by decide +kernel
theorem dX3_init_19 : decode cX3_init 19 = .ok (.aload_n 0, 1) := by decide +kernel
theorem dX3_init_20 : decode cX3_init 20 = .ok (.iload_n 2, 1) := by decide +kernel
theorem dX3_init_21 : decode cX3_init 21 = .ok (.putfield 21, 3) := by decide +kernel
theorem dX3_init_24 : decode cX3_init 24 = .ok (.aload_n 0, 1) := by decide +kernel
theorem dX3_init_25 : decode cX3_init 25 = .ok (.iload_n 3, 1) := by decide +kernel
theorem dX3_init_26 : decode cX3_init 26 = .ok (.putfield 24, 3) := by decide +kernel
theorem dX3_init_29 : decode cX3_init 29 = .ok (.aload_n 0, 1) := by decide +kernel
theorem dX3_init_30 : decode cX3_init 30 = .ok (.iload 4, 2) := by decide +kernel
theorem dX3_init_32 : decode cX3_init 32 = .ok (.putfield 27, 3) := by decide +kernel
theorem dX3_init_35 : decode cX3_init 35 = .ok (.aload_n 0, 1) := by decide +kernel
theorem dX3_init_36 : decode cX3_init 36 = .ok (.iload 5, 2) := by decide +kernel
theorem dX3_init_38 : decode cX3_init 38 = .ok (.putfield 30, 3) := by decide +kernel
theorem dX3_init_41 : decode cX3_init 41 = .ok (.aload_n 0, 1) := by decide +kernel
theorem dX3_init_42 : decode cX3_init 42 = .ok (.iload 6, 2) := by decide +kernel
theorem dX3_init_44 : decode cX3_init 44 = .ok (.putfield 33, 3) := by decide +kernel
theorem dX3_init_47 : decode cX3_init 47 = .ok (.return_, 1) := by decide +kernel
def tab_X3_init : List (Nat × Sem) := [(0, op_al 0 1), (1, op_oinit 4), (4, op_al 0 5), (5, op_ic 0 6), (6, op_pf 5 6 9), (9, op_al 0 10), (10, op_ic (-1) 11), (11, op_pf 5 7 14), (14, op_al 0 15), (15, op_il 1 16), (16, op_pf 5 0 19), (19, op_al 0 20), (20, op_il 2 21), (21, op_pf 5 1 24), (24, op_al 0 25), (25, op_il 3 26), (26, op_pf 5 2 29), (29, op_al 0 30), (30, op_il 4 32), (32, op_pf 5 3 35), (35, op_al 0 36), (36, op_il 5 38), (38, op_pf 5 4 41), (41, op_al 0 42), (42, op_il 6 44), (44, op_pf 5 5 47), (47, op_vret)]
set_option maxRecDepth 20000 in
theorem tok_X3_init : ∀ q ∈ tab_X3_init, ISnd RX3 cX3_init 7 1 0 none q.1 q.2 := by
  unfold tab_X3_init
  refine iicons (snd_i (ok_aload_n dX3_init_0 rfl rfl)) ?_
  refine iicons (snd_i (ok_oinit w_465 (by decide) dX3_init_1 rfl)) ?_
  refine iicons (snd_i (ok_aload_n dX3_init_4 rfl rfl)) ?_
  refine iicons (snd_i (ok_iconst dX3_init_5 rfl rfl)) ?_
  refine iicons (snd_i (ok_putfield (C := RX3) (T := TX3) (n := 8) tyX3 .int rfl in_X3 tyX3_ok nmX3 (by decide) rfl w_478 rfl (Or.inl rfl) dX3_init_6 rfl)) ?_
  refine iicons (snd_i (ok_aload_n dX3_init_9 rfl rfl)) ?_
  refine iicons (snd_i (ok_iconst dX3_init_10 rfl rfl)) ?_
  refine iicons (snd_i (ok_putfield (C := RX3) (T := TX3) (n := 8) tyX3 .int rfl in_X3 tyX3_ok nmX3 (by decide) rfl w_480 rfl (Or.inl rfl) dX3_init_11 rfl)) ?_
  refine iicons (snd_i (ok_aload_n dX3_init_14 rfl rfl)) ?_
  refine iicons (snd_i (ok_iload_n dX3_init_15 rfl rfl)) ?_
  refine iicons (ok_putfieldF (C := RX3) (T := TX3) (n := 8) tyX3 .int rfl in_X3 tyX3_ok nmX3 (by decide) rfl rfl w_466 rfl (Or.inl rfl) dX3_init_16 rfl) ?_
  refine iicons (snd_i (ok_aload_n dX3_init_19 rfl rfl)) ?_
  refine iicons (snd_i (ok_iload_n dX3_init_20 rfl rfl)) ?_
  refine iicons (ok_putfieldF (C := RX3) (T := TX3) (n := 8) tyX3 .int rfl in_X3 tyX3_ok nmX3 (by decide) rfl rfl w_468 rfl (Or.inl rfl) dX3_init_21 rfl) ?_
  refine iicons (snd_i (ok_aload_n dX3_init_24 rfl rfl)) ?_
  refine iicons (snd_i (ok_iload_n dX3_init_25 rfl rfl)) ?_
  refine iicons (ok_putfieldF (C := RX3) (T := TX3) (n := 8) tyX3 .int rfl in_X3 tyX3_ok nmX3 (by decide) rfl rfl w_470 rfl (Or.inl rfl) dX3_init_26 rfl) ?_
  refine iicons (snd_i (ok_aload_n dX3_init_29 rfl rfl)) ?_
  refine iicons (snd_i (ok_iload dX3_init_30 rfl)) ?_
  refine iicons (ok_putfieldF (C := RX3) (T := TX3) (n := 8) tyX3 .int rfl in_X3 tyX3_ok nmX3 (by decide) rfl rfl w_472 rfl (Or.inl rfl) dX3_init_32 rfl) ?_
  refine iicons (snd_i (ok_aload_n dX3_init_35 rfl rfl)) ?_
  refine iicons (snd_i (ok_iload dX3_init_36 rfl)) ?_
  refine iicons (ok_putfieldF (C := RX3) (T := TX3) (n := 8) tyX3 .int rfl in_X3 tyX3_ok nmX3 (by decide) rfl rfl w_474 rfl (Or.inl rfl) dX3_init_38 rfl) ?_
  refine iicons (snd_i (ok_aload_n dX3_init_41 rfl rfl)) ?_
  refine iicons (snd_i (ok_iload dX3_init_42 rfl)) ?_
  refine iicons (snd_i (ok_putfield (C := RX3) (T := TX3) (n := 8) tyX3 .boolean rfl in_X3 tyX3_ok nmX3 (by decide) rfl w_476 rfl (Or.inr ⟨rfl, zf_5_5⟩) dX3_init_44 rfl)) ?_
  refine iicons (snd_i (ok_vreturn rfl dX3_init_47)) ?_
  exact fun _ h => nomatch h
def viC (s : Sg) (i : Nat) (p q a t l f : Int32) : Sg := stS (stS (stS (stS (stS (stS (stS (stS s 13 i 6 0) 13 i 7 (-1)) 13 i 0 p) 13 i 1 q) 13 i 2 a) 13 i 3 t) 13 i 4 l) 13 i 5 f
def sp_X3_init : Spc := fun av s N _ => match av with
  | [.inl (.inr (13, i)), .inl (.inl p), .inl (.inl q), .inl (.inl a), .inl (.inl t), .inl (.inl l), .inl (.inl f)] => Lv s 13 i ∧ (f = 0 ∨ f = 1) ∧ N none (viC s i p q a t l f)
  | _ => False
set_option maxRecDepth 20000 in
set_option maxHeartbeats 2000000 in
theorem M_X3_init : AMet yX3_init cX3_init 7 none 1 0 sp_X3_init := by
  refine AMet.mi (own := RX3) (by decide) rfl rfl [0, 1, 2, 3, 4, 5, 6] rfl tok_X3_init 200 ?_
  intro av s0 N X h
  unfold sp_X3_init at h
  split at h
  rotate_left
  · exact h.elim
  repeat' (first | apply And.intro | (intro q; exact absurd q (by decide)) | intro _)
  all_goals first | decide | (exact (rfl : (0 : Nat) = 0)) | (exact Nat.le_of_ble_eq_true rfl) | (exact h.1) | (exact h.2.1) | (exact h.2.2)

