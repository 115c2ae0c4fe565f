/-! the law's small methods: vows as they are packed -/
/-- a vow's row of the law: who, where, whether it lacks the form, how it is, what hindered it -/
def pkV (one oth pl lk st la : Nat) : Nat := one + 16 * oth + 256 * pl + 2048 * lk + 4096 * st + 16384 * la
def vR (s : Sg) (k one oth pl lk st la : Nat) : Prop := (one < 16 ∧ oth < 16 ∧ pl < 8 ∧ lk < 2 ∧ st < 4 ∧ la < 16) ∧ s.2.1 24 0 k = nI (pkV one oth pl lk st la)
theorem vR_lt {s : Sg} {k one oth pl lk st la : Nat} (h : vR s k one oth pl lk st la) : pkV one oth pl lk st la < 2 ^ 31 := by
  have := h.1
  unfold pkV
  omega
theorem vR_one {s : Sg} {k one oth pl lk st la : Nat} (h : vR s k one oth pl lk st la) : irm (s.2.1 24 0 k) 16 = nI one := by
  rw [h.2, show (16 : Int32) = nI 16 from rfl, irmN (vR_lt h) (by decide) (by decide)]
  have := h.1
  unfold pkV
  congr 1
  omega
theorem vR_oth {s : Sg} {k one oth pl lk st la : Nat} (h : vR s k one oth pl lk st la) : irm (s.2.1 24 0 k / 16) 16 = nI oth := by
  have h2 := vR_lt h
  rw [h.2, show (16 : Int32) = nI 16 from rfl, divN h2 (by decide) (by decide), irmN (by omega) (by decide) (by decide)]
  have := h.1
  unfold pkV
  congr 1
  omega
theorem vR_pl {s : Sg} {k one oth pl lk st la : Nat} (h : vR s k one oth pl lk st la) : irm (s.2.1 24 0 k / 256) 8 = nI pl := by
  have h2 := vR_lt h
  rw [h.2, show (256 : Int32) = nI 256 from rfl, show (8 : Int32) = nI 8 from rfl, divN h2 (by decide) (by decide), irmN (by omega) (by decide) (by decide)]
  have := h.1
  unfold pkV
  congr 1
  omega
theorem vR_lk {s : Sg} {k one oth pl lk st la : Nat} (h : vR s k one oth pl lk st la) : irm (s.2.1 24 0 k / 2048) 2 = nI lk := by
  have h2 := vR_lt h
  rw [h.2, show (2048 : Int32) = nI 2048 from rfl, show (2 : Int32) = nI 2 from rfl, divN h2 (by decide) (by decide), irmN (by omega) (by decide) (by decide)]
  have := h.1
  unfold pkV
  congr 1
  omega
theorem vR_st {s : Sg} {k one oth pl lk st la : Nat} (h : vR s k one oth pl lk st la) : irm (s.2.1 24 0 k / 4096) 4 = nI st := by
  have h2 := vR_lt h
  rw [h.2, show (4096 : Int32) = nI 4096 from rfl, show (4 : Int32) = nI 4 from rfl, divN h2 (by decide) (by decide), irmN (by omega) (by decide) (by decide)]
  have := h.1
  unfold pkV
  congr 1
  omega
theorem vR_la {s : Sg} {k one oth pl lk st la : Nat} (h : vR s k one oth pl lk st la) : s.2.1 24 0 k / 16384 = nI la := by
  have h2 := vR_lt h
  rw [h.2, show (16384 : Int32) = nI 16384 from rfl, divN h2 (by decide) (by decide)]
  have := h.1
  unfold pkV
  congr 1
  omega
theorem dL_isOf_0 : decode cL_isOf 0 = .ok (.aload_n 0, 1) := by decide +kernel
theorem dL_isOf_1 : decode cL_isOf 1 = .ok (.iload_n 1, 1) := by decide +kernel
theorem dL_isOf_2 : decode cL_isOf 2 = .ok (.iaload, 1) := by decide +kernel
theorem dL_isOf_3 : decode cL_isOf 3 = .ok (.bipush 16, 2) := by decide +kernel
theorem dL_isOf_5 : decode cL_isOf 5 = .ok (.irem, 1) := by decide +kernel
theorem dL_isOf_6 : decode cL_isOf 6 = .ok (.iload_n 2, 1) := by decide +kernel
theorem dL_isOf_7 : decode cL_isOf 7 = .ok (.if_icmp .eq 16, 3) := by decide +kernel
theorem dL_isOf_10 : decode cL_isOf 10 = .ok (.aload_n 0, 1) := by decide +kernel
theorem dL_isOf_11 : decode cL_isOf 11 = .ok (.iload_n 1, 1) := by decide +kernel
theorem dL_isOf_12 : decode cL_isOf 12 = .ok (.iaload, 1) := by decide +kernel
theorem dL_isOf_13 : decode cL_isOf 13 = .ok (.bipush 16, 2) := by decide +kernel
theorem dL_isOf_15 : decode cL_isOf 15 = .ok (.idiv, 1) := by decide +kernel
theorem dL_isOf_16 : decode cL_isOf 16 = .ok (.bipush 16, 2) := by decide +kernel
theorem dL_isOf_18 : decode cL_isOf 18 = .ok (.irem, 1) := by decide +kernel
theorem dL_isOf_19 : decode cL_isOf 19 = .ok (.iload_n 2, 1) := by decide +kernel
theorem dL_isOf_20 : decode cL_isOf 20 = .ok (.if_icmp .ne 7, 3) := by decide +kernel
theorem dL_isOf_23 : decode cL_isOf 23 = .ok (.iconst 1, 1) := by decide +kernel
theorem dL_isOf_24 : decode cL_isOf 24 = .ok (.goto 4, 3) := by decide +kernel
theorem dL_isOf_27 : decode cL_isOf 27 = .ok (.iconst 0, 1) := by decide +kernel
theorem dL_isOf_28 : decode cL_isOf 28 = .ok (.ireturn, 1) := by decide +kernel
def tab_L_isOf : List (Nat × Sem) := [(0, op_al 0 1), (1, op_il 1 2), (2, op_iald 3), (3, op_ic 16 5), (5, op_dv (fun x y => irm x y) 6), (6, op_il 2 7), (7, op_cmp (fun x y => x = y) 23 10), (10, op_al 0 11), (11, op_il 1 12), (12, op_iald 13), (13, op_ic 16 15), (15, op_dv (fun x y => x / y) 16), (16, op_ic 16 18), (18, op_dv (fun x y => irm x y) 19), (19, op_il 2 20), (20, op_cmp (fun x y => ¬ x = y) 27 23), (23, op_ic 1 24), (24, op_go 28), (27, op_ic 0 28), (28, op_zret)]
set_option maxRecDepth 20000 in
theorem tok_L_isOf : ∀ q ∈ tab_L_isOf, Snd RL cL_isOf 3 0 0 (some .boolean) q.1 q.2 := by
  unfold tab_L_isOf
  refine tcons (ok_aload_n dL_isOf_0 rfl rfl) ?_
  refine tcons (ok_iload_n dL_isOf_1 rfl rfl) ?_
  refine tcons (ok_iaload dL_isOf_2 rfl) ?_
  refine tcons (ok_bipush dL_isOf_3 rfl rfl) ?_
  refine tcons (ok_irem dL_isOf_5 rfl) ?_
  refine tcons (ok_iload_n dL_isOf_6 rfl rfl) ?_
  refine tcons (ok_icmp_eq dL_isOf_7 rfl rfl) ?_
  refine tcons (ok_aload_n dL_isOf_10 rfl rfl) ?_
  refine tcons (ok_iload_n dL_isOf_11 rfl rfl) ?_
  refine tcons (ok_iaload dL_isOf_12 rfl) ?_
  refine tcons (ok_bipush dL_isOf_13 rfl rfl) ?_
  refine tcons (ok_idiv dL_isOf_15 rfl) ?_
  refine tcons (ok_bipush dL_isOf_16 rfl rfl) ?_
  refine tcons (ok_irem dL_isOf_18 rfl) ?_
  refine tcons (ok_iload_n dL_isOf_19 rfl rfl) ?_
  refine tcons (ok_icmp_ne dL_isOf_20 rfl rfl) ?_
  refine tcons (ok_iconst dL_isOf_23 rfl rfl) ?_
  refine tcons (ok_goto dL_isOf_24 rfl) ?_
  refine tcons (ok_iconst dL_isOf_27 rfl rfl) ?_
  refine tcons (ok_zreturn rfl (Or.inl rfl) dL_isOf_28) ?_
  exact fun _ h => nomatch h
def isOfL (s : Sg) (i : Nat) (p : Int32) : Prop := irm (s.2.1 24 0 i) 16 = p ∨ irm (s.2.1 24 0 i / 16) 16 = p
def sp_L_isOf : Spc := fun av s N _ => match av with
  | [.inl (.inr (24, 0)), .inl (.inl k), .inl (.inl p)] => ∃ i : Nat, i < 17 ∧ k = nI i ∧ br (isOfL s i p) N s
  | _ => False
set_option maxRecDepth 20000 in
set_option maxHeartbeats 2000000 in
theorem M_L_isOf : AMet yL_isOf cL_isOf 3 (some .boolean) 0 0 sp_L_isOf := by
  refine AMet.rn (own := RL) (by decide) rfl [0, 1, 2] rfl tok_L_isOf ?_
  intro av s0 N X h Z run
  unfold sp_L_isOf at h
  split at h
  rotate_left
  · exact h.elim
  rename_i k p
  obtain ⟨i, hi, rfl, h⟩ := h
  have ci : (nI i).toNatClampNeg = i := nI_clamp (by omega)
  have hb : Ib (nI i) 17 := nIb hi (by decide)
  refine run.go [] 40 ?_
  repeat' (first | apply And.intro | (intro q; exact absurd q (by decide)) | (intro q; exact absurd (by decide) q) | (intro q; exact absurd rfl q) | intro _)
  all_goals first | (exact hb) | (exact trivial) | decide | (exact (rfl : (0 : Nat) = 0)) | (exact Nat.le_of_ble_eq_true rfl) | contradiction | skip
  all_goals first | (refine h.1 ?_) | (refine h.2 ?_)
  all_goals (unfold isOfL; simp only [ci] at *; grind)
theorem dL_binds_0 : decode cL_binds 0 = .ok (.aload_n 0, 1) := by decide +kernel
theorem dL_binds_1 : decode cL_binds 1 = .ok (.iload_n 2, 1) := by decide +kernel
theorem dL_binds_2 : decode cL_binds 2 = .ok (.iaload, 1) := by decide +kernel
theorem dL_binds_3 : decode cL_binds 3 = .ok (.sipush 4096, 3) := by decide +kernel
theorem dL_binds_6 : decode cL_binds 6 = .ok (.idiv, 1) := by decide +kernel
theorem dL_binds_7 : decode cL_binds 7 = .ok (.iconst 4, 1) := by decide +kernel
theorem dL_binds_8 : decode cL_binds 8 = .ok (.irem, 1) := by decide +kernel
theorem dL_binds_9 : decode cL_binds 9 = .ok (.istore 4, 2) := by decide +kernel
theorem dL_binds_11 : decode cL_binds 11 = .ok (.aload_n 1, 1) := by decide +kernel
theorem dL_binds_12 : decode cL_binds 12 = .ok (.iload_n 2, 1) := by decide +kernel
theorem dL_binds_13 : decode cL_binds 13 = .ok (.iaload, 1) := by decide +kernel
theorem dL_binds_14 : decode cL_binds 14 = .ok (.iload_n 3, 1) := by decide +kernel
theorem dL_binds_15 : decode cL_binds 15 = .ok (.if_icmp .gt 28, 3) := by decide +kernel
theorem dL_binds_18 : decode cL_binds 18 = .ok (.iload 4, 2) := by decide +kernel
theorem dL_binds_20 : decode cL_binds 20 = .ok (.iconst 1, 1) := by decide +kernel
theorem dL_binds_21 : decode cL_binds 21 = .ok (.if_icmp .eq 22, 3) := by decide +kernel
theorem dL_binds_24 : decode cL_binds 24 = .ok (.iload 4, 2) := by decide +kernel
theorem dL_binds_26 : decode cL_binds 26 = .ok (.ifCond .eq 13, 3) := by decide +kernel
theorem dL_binds_29 : decode cL_binds 29 = .ok (.aload_n 1, 1) := by decide +kernel
theorem dL_binds_30 : decode cL_binds 30 = .ok (.bipush 16, 2) := by decide +kernel
theorem dL_binds_32 : decode cL_binds 32 = .ok (.iload_n 2, 1) := by decide +kernel
theorem dL_binds_33 : decode cL_binds 33 = .ok (.iadd, 1) := by decide +kernel
theorem dL_binds_34 : decode cL_binds 34 = .ok (.iaload, 1) := by decide +kernel
theorem dL_binds_35 : decode cL_binds 35 = .ok (.iload_n 3, 1) := by decide +kernel
theorem dL_binds_36 : decode cL_binds 36 = .ok (.if_icmp .le 7, 3) := by decide +kernel
theorem dL_binds_39 : decode cL_binds 39 = .ok (.iconst 1, 1) := by decide +kernel
theorem dL_binds_40 : decode cL_binds 40 = .ok (.goto 4, 3) := by decide +kernel
theorem dL_binds_43 : decode cL_binds 43 = .ok (.iconst 0, 1) := by decide +kernel
theorem dL_binds_44 : decode cL_binds 44 = .ok (.ireturn, 1) := by decide +kernel
def tab_L_binds : List (Nat × Sem) := [(0, op_al 0 1), (1, op_il 2 2), (2, op_iald 3), (3, op_ic 4096 6), (6, op_dv (fun x y => x / y) 7), (7, op_ic 4 8), (8, op_dv (fun x y => irm x y) 9), (9, op_is 4 11), (11, op_al 1 12), (12, op_il 2 13), (13, op_iald 14), (14, op_il 3 15), (15, op_cmp (fun x y => y < x) 43 18), (18, op_il 4 20), (20, op_ic 1 21), (21, op_cmp (fun x y => x = y) 43 24), (24, op_il 4 26), (26, op_if (fun x => x = 0) 39 29), (29, op_al 1 30), (30, op_ic 16 32), (32, op_il 2 33), (33, op_bin (fun x y => x + y) 34), (34, op_iald 35), (35, op_il 3 36), (36, op_cmp (fun x y => x ≤ y) 43 39), (39, op_ic 1 40), (40, op_go 44), (43, op_ic 0 44), (44, op_zret)]
set_option maxRecDepth 20000 in
theorem tok_L_binds : ∀ q ∈ tab_L_binds, Snd RL cL_binds 5 0 0 (some .boolean) q.1 q.2 := by
  unfold tab_L_binds
  refine tcons (ok_aload_n dL_binds_0 rfl rfl) ?_
  refine tcons (ok_iload_n dL_binds_1 rfl rfl) ?_
  refine tcons (ok_iaload dL_binds_2 rfl) ?_
  refine tcons (ok_sipush dL_binds_3 rfl rfl) ?_
  refine tcons (ok_idiv dL_binds_6 rfl) ?_
  refine tcons (ok_iconst dL_binds_7 rfl rfl) ?_
  refine tcons (ok_irem dL_binds_8 rfl) ?_
  refine tcons (ok_istore dL_binds_9 (by decide) rfl) ?_
  refine tcons (ok_aload_n dL_binds_11 rfl rfl) ?_
  refine tcons (ok_iload_n dL_binds_12 rfl rfl) ?_
  refine tcons (ok_iaload dL_binds_13 rfl) ?_
  refine tcons (ok_iload_n dL_binds_14 rfl rfl) ?_
  refine tcons (ok_icmp_gt dL_binds_15 rfl rfl) ?_
  refine tcons (ok_iload dL_binds_18 rfl) ?_
  refine tcons (ok_iconst dL_binds_20 rfl rfl) ?_
  refine tcons (ok_icmp_eq dL_binds_21 rfl rfl) ?_
  refine tcons (ok_iload dL_binds_24 rfl) ?_
  refine tcons (ok_if_eq dL_binds_26 rfl rfl) ?_
  refine tcons (ok_aload_n dL_binds_29 rfl rfl) ?_
  refine tcons (ok_bipush dL_binds_30 rfl rfl) ?_
  refine tcons (ok_iload_n dL_binds_32 rfl rfl) ?_
  refine tcons (ok_iadd dL_binds_33 rfl) ?_
  refine tcons (ok_iaload dL_binds_34 rfl) ?_
  refine tcons (ok_iload_n dL_binds_35 rfl rfl) ?_
  refine tcons (ok_icmp_le dL_binds_36 rfl rfl) ?_
  refine tcons (ok_iconst dL_binds_39 rfl rfl) ?_
  refine tcons (ok_goto dL_binds_40 rfl) ?_
  refine tcons (ok_iconst dL_binds_43 rfl rfl) ?_
  refine tcons (ok_zreturn rfl (Or.inl rfl) dL_binds_44) ?_
  exact fun _ h => nomatch h
def bindsL (s : Sg) (i : Nat) (t : Int32) : Prop := ¬ t < s.2.1 25 0 i ∧ ¬ irm (s.2.1 24 0 i / 4096) 4 = 1 ∧ (irm (s.2.1 24 0 i / 4096) 4 = 0 ∨ t < s.2.1 25 0 (16 + i))
def sp_L_binds : Spc := fun av s N _ => match av with
  | [.inl (.inr (24, 0)), .inl (.inr (25, 0)), .inl (.inl k), .inl (.inl t)] => ∃ i : Nat, i < 16 ∧ k = nI i ∧ br (bindsL s i t) N s
  | _ => False
set_option maxRecDepth 20000 in
set_option maxHeartbeats 2000000 in
theorem M_L_binds : AMet yL_binds cL_binds 5 (some .boolean) 0 0 sp_L_binds := by
  refine AMet.rn (own := RL) (by decide) rfl [0, 1, 2, 3, 4] rfl tok_L_binds ?_
  intro av s0 N X h Z run
  unfold sp_L_binds at h
  split at h
  rotate_left
  · exact h.elim
  rename_i k t
  obtain ⟨i, hi, rfl, h⟩ := h
  have ci : (nI i).toNatClampNeg = i := nI_clamp (by omega)
  have e16 : (16 : Int32) + nI i = nI (16 + i) := nI_add 16 i
  have c16 : (16 + nI i).toNatClampNeg = 16 + i := by rw [e16]; exact nI_clamp (by omega)
  have hb : Ib (nI i) 17 := nIb (by omega) (by decide)
  have hb2 : Ib (nI i) 32 := nIb (by omega) (by decide)
  have hb3 : Ib (16 + nI i) 32 := by rw [e16]; exact nIb (by omega) (by decide)
  refine run.go [] 60 ?_
  repeat' (first | apply And.intro | (intro q; exact absurd q (by decide)) | (intro q; exact absurd (by decide) q) | (intro q; exact absurd rfl q) | intro _)
  all_goals first | (exact hb) | (exact hb2) | (exact hb3) | (exact trivial) | decide | (exact (rfl : (0 : Nat) = 0)) | (exact Nat.le_of_ble_eq_true rfl) | contradiction | skip
  all_goals first | (refine h.1 ?_) | (refine h.2 ?_)
  all_goals (unfold bindsL; simp only [ci, c16] at *; grind)
def chV (one oth pl lk st la how : Nat) (s : Sg) (i : Nat) : Sg := stS (stS s 24 0 i (nI (pkV one oth pl lk how la))) 25 0 (16 + i) (s.2.1 30 0 0)
theorem dL_changes_0 : decode cL_changes 0 = .ok (.aload_n 0, 1) := by decide +kernel
theorem dL_changes_1 : decode cL_changes 1 = .ok (.iload_n 3, 1) := by decide +kernel
theorem dL_changes_2 : decode cL_changes 2 = .ok (.dup2, 1) := by decide +kernel
theorem dL_changes_3 : decode cL_changes 3 = .ok (.iaload, 1) := by decide +kernel
theorem dL_changes_4 : decode cL_changes 4 = .ok (.sipush 4096, 3) := by decide +kernel
theorem dL_changes_7 : decode cL_changes 7 = .ok (.iload 4, 2) := by decide +kernel
theorem dL_changes_9 : decode cL_changes 9 = .ok (.aload_n 0, 1) := by decide +kernel
theorem dL_changes_10 : decode cL_changes 10 = .ok (.iload_n 3, 1) := by decide +kernel
theorem dL_changes_11 : decode cL_changes 11 = .ok (.iaload, 1) := by decide +kernel
theorem dL_changes_12 : decode cL_changes 12 = .ok (.sipush 4096, 3) := by decide +kernel
theorem dL_changes_15 : decode cL_changes 15 = .ok (.idiv, 1) := by decide +kernel
theorem dL_changes_16 : decode cL_changes 16 = .ok (.iconst 4, 1) := by decide +kernel
theorem dL_changes_17 : decode cL_changes 17 = .ok (.irem, 1) := by decide +kernel
theorem dL_changes_18 : decode cL_changes 18 = .ok (.isub, 1) := by decide +kernel
theorem dL_changes_19 : decode cL_changes 19 = .ok (.imul, 1) := by decide +kernel
theorem dL_changes_20 : decode cL_changes 20 = .ok (.iadd, 1) := by decide +kernel
theorem dL_changes_21 : decode cL_changes 21 = .ok (.iastore, 1) := by decide +kernel
theorem dL_changes_22 : decode cL_changes 22 = .ok (.aload_n 1, 1) := by decide +kernel
theorem dL_changes_23 : decode cL_changes 23 = .ok (.bipush 16, 2) := by decide +kernel
theorem dL_changes_25 : decode cL_changes 25 = .ok (.iload_n 3, 1) := by decide +kernel
theorem dL_changes_26 : decode cL_changes 26 = .ok (.iadd, 1) := by decide +kernel
theorem dL_changes_27 : decode cL_changes 27 = .ok (.aload_n 2, 1) := by decide +kernel
theorem dL_changes_28 : decode cL_changes 28 = .ok (.iconst 0, 1) := by decide +kernel
theorem dL_changes_29 : decode cL_changes 29 = .ok (.iaload, 1) := by decide +kernel
theorem dL_changes_30 : decode cL_changes 30 = .ok (.iastore, 1) := by decide +kernel
theorem dL_changes_31 : decode cL_changes 31 = .ok (.return_, 1) := by decide +kernel
def tab_L_changes : List (Nat × Sem) := [(0, op_al 0 1), (1, op_il 3 2), (2, op_dup2 3), (3, op_iald 4), (4, op_ic 4096 7), (7, op_il 4 9), (9, op_al 0 10), (10, op_il 3 11), (11, op_iald 12), (12, op_ic 4096 15), (15, op_dv (fun x y => x / y) 16), (16, op_ic 4 17), (17, op_dv (fun x y => irm x y) 18), (18, op_bin (fun x y => x - y) 19), (19, op_bin (fun x y => x * y) 20), (20, op_bin (fun x y => x + y) 21), (21, op_iast 22), (22, op_al 1 23), (23, op_ic 16 25), (25, op_il 3 26), (26, op_bin (fun x y => x + y) 27), (27, op_al 2 28), (28, op_ic 0 29), (29, op_iald 30), (30, op_iast 31), (31, op_vret)]
set_option maxRecDepth 20000 in
theorem tok_L_changes : ∀ q ∈ tab_L_changes, Snd RL cL_changes 5 0 0 none q.1 q.2 := by
  unfold tab_L_changes
  refine tcons (ok_aload_n dL_changes_0 rfl rfl) ?_
  refine tcons (ok_iload_n dL_changes_1 rfl rfl) ?_
  refine tcons (ok_dup2 dL_changes_2 rfl) ?_
  refine tcons (ok_iaload dL_changes_3 rfl) ?_
  refine tcons (ok_sipush dL_changes_4 rfl rfl) ?_
  refine tcons (ok_iload dL_changes_7 rfl) ?_
  refine tcons (ok_aload_n dL_changes_9 rfl rfl) ?_
  refine tcons (ok_iload_n dL_changes_10 rfl rfl) ?_
  refine tcons (ok_iaload dL_changes_11 rfl) ?_
  refine tcons (ok_sipush dL_changes_12 rfl rfl) ?_
  refine tcons (ok_idiv dL_changes_15 rfl) ?_
  refine tcons (ok_iconst dL_changes_16 rfl rfl) ?_
  refine tcons (ok_irem dL_changes_17 rfl) ?_
  refine tcons (ok_isub dL_changes_18 rfl) ?_
  refine tcons (ok_imul dL_changes_19 rfl) ?_
  refine tcons (ok_iadd dL_changes_20 rfl) ?_
  refine tcons (ok_iastore dL_changes_21 rfl) ?_
  refine tcons (ok_aload_n dL_changes_22 rfl rfl) ?_
  refine tcons (ok_bipush dL_changes_23 rfl rfl) ?_
  refine tcons (ok_iload_n dL_changes_25 rfl rfl) ?_
  refine tcons (ok_iadd dL_changes_26 rfl) ?_
  refine tcons (ok_aload_n dL_changes_27 rfl rfl) ?_
  refine tcons (ok_iconst dL_changes_28 rfl rfl) ?_
  refine tcons (ok_iaload dL_changes_29 rfl) ?_
  refine tcons (ok_iastore dL_changes_30 rfl) ?_
  refine tcons (ok_vreturn rfl dL_changes_31) ?_
  exact fun _ h => nomatch h
def sp_L_changes : Spc := fun av s N _ => match av with
  | [.inl (.inr (24, 0)), .inl (.inr (25, 0)), .inl (.inr (30, 0)), .inl (.inl k), .inl (.inl how)] => ∃ i one oth pl lk st la w : Nat, i < 16 ∧ k = nI i ∧ w < 4 ∧ how = nI w ∧ vR s i one oth pl lk st la ∧ N none (chV one oth pl lk st la w s i)
  | _ => False
set_option maxRecDepth 20000 in
set_option maxHeartbeats 2000000 in
theorem M_L_changes : AMet yL_changes cL_changes 5 none 0 0 sp_L_changes := by
  refine AMet.rn (own := RL) (by decide) rfl [0, 1, 2, 3, 4] rfl tok_L_changes ?_
  intro av s0 N X h Z run
  unfold sp_L_changes at h
  split at h
  rotate_left
  · exact h.elim
  rename_i k how
  obtain ⟨i, one, oth, pl, lk, st, la, w, hi, rfl, hw, rfl, hv, h⟩ := h
  have ci : (nI i).toNatClampNeg = i := nI_clamp (by omega)
  have e16 : (16 : Int32) + nI i = nI (16 + i) := nI_add 16 i
  have c16 : (16 + nI i).toNatClampNeg = 16 + i := by rw [e16]; exact nI_clamp (by omega)
  have h1 := vR_st hv
  have hb : Ib (nI i) 17 := nIb (by omega) (by decide)
  have hb3 : Ib (16 + nI i) 32 := by rw [e16]; exact nIb (by omega) (by decide)
  have hb4 : Ib 0 4 := nIb (k := 0) (by decide) (by decide)
  refine run.go [] 60 ?_
  repeat' (first | apply And.intro | (intro q; exact absurd q (by decide)) | (intro q; exact absurd (by decide) q) | (intro q; exact absurd rfl q) | intro _)
  all_goals first | (exact hb) | (exact hb3) | (exact hb4) | (exact trivial) | decide | (exact (rfl : (0 : Nat) = 0)) | (exact Nat.le_of_ble_eq_true rfl) | contradiction | skip
  dsimp only
  rw [ci, c16, h1]
  have e : s0.2.1 24 0 i + 4096 * (nI w - nI st) = nI (pkV one oth pl lk w la) := by
    rw [hv.2, Int32.mul_sub, show (4096 : Int32) = nI 4096 from rfl, pk_mul, pk_mul, Int32.sub_eq_add_neg, ← Int32.add_assoc, ← Int32.sub_eq_add_neg, nI_add, pk_sub (by unfold pkV; omega)]
    congr 1
    unfold pkV
    omega
  rw [e]
  exact h

