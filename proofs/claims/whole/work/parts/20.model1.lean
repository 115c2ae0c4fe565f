/-! the model's small methods -/
/-- a truth value's two ways -/
def br (P : Prop) (N : Nt) (s : Sg) : Prop := (P → N (some (aI 1)) s) ∧ (¬ P → N (some (aI 0)) s)
theorem stS_get {s : Sg} {t i j a b c : Nat} {v : Int32} : (stS s t i j v).2.1 a b c = if a = t ∧ b = i ∧ c = j then v else s.2.1 a b c := rfl
theorem stS_1 {s : Sg} {t i j : Nat} {v : Int32} : (stS s t i j v).1 = s.1 := rfl
theorem stS_3 {s : Sg} {t i j : Nat} {v : Int32} : (stS s t i j v).2.2 = s.2.2 := rfl
/-- an int within bounds, as the code asks it -/
def inR (v a b : Int32) : Prop := ¬ v < a ∧ ¬ b < v
/-- how many persons, vows, causes the model has -/
def MI0 (s : Sg) : Prop := (∃ n, n ≤ 24 ∧ s.2.1 20 0 1 = nI n) ∧ (∃ n, n ≤ 30 ∧ s.2.1 20 0 12 = nI n) ∧ (∃ n, n ≤ 30 ∧ s.2.1 20 0 21 = nI n)
/-- (said so that it is no conjunction) -/
def MI (s : Sg) : Prop := MI0 s = True
theorem ix_vp {p m : Int32} {k N : Nat} (h : inR p 0 (m - 1)) (hm : m = nI k) (hk : k ≤ N) (hN : N < 2 ^ 30) : vp_in p N := by
  obtain ⟨h1, h2⟩ := h
  subst hm
  rintro (q | q)
  · exact h1 q
  · obtain ⟨j, hj, rfl⟩ := nI_of h1
    rw [nI_clamp hj] at q
    cases k with
    | zero =>
      have e : nI 0 - 1 = -1 := rfl
      rw [e] at h2
      refine h2 ?_
      rw [Int32.lt_iff_toInt_lt, nI_toInt hj]
      have : (-1 : Int32).toInt = -1 := rfl
      omega
    | succ k =>
      rw [nI_pred] at h2
      exact h2 (nI_lt (by omega) hj)
theorem rg_vp {p b : Int32} {N : Nat} (h : inR p 0 b) (hb : b.toInt + 1 ≤ N) (hN : N < 2 ^ 30) : vp_in p N := by
  obtain ⟨h1, h2⟩ := h
  rintro (q | q)
  · exact h1 q
  · obtain ⟨j, hj, rfl⟩ := nI_of h1
    rw [nI_clamp hj] at q
    refine h2 ?_
    rw [Int32.lt_iff_toInt_lt, nI_toInt hj]
    omega
theorem dX5_isIn_0 : decode cX5_isIn 0 = .ok (.iload_n 0, 1) := by decide +kernel
theorem dX5_isIn_1 : decode cX5_isIn 1 = .ok (.iload_n 1, 1) := by decide +kernel
theorem dX5_isIn_2 : decode cX5_isIn 2 = .ok (.if_icmp .lt 12, 3) := by decide +kernel
theorem dX5_isIn_5 : decode cX5_isIn 5 = .ok (.iload_n 0, 1) := by decide +kernel
theorem dX5_isIn_6 : decode cX5_isIn 6 = .ok (.iload_n 2, 1) := by decide +kernel
theorem dX5_isIn_7 : decode cX5_isIn 7 = .ok (.if_icmp .gt 7, 3) := by decide +kernel
theorem dX5_isIn_10 : decode cX5_isIn 10 = .ok (.iconst 1, 1) := by decide +kernel
theorem dX5_isIn_11 : decode cX5_isIn 11 = .ok (.goto 4, 3) := by decide +kernel
theorem dX5_isIn_14 : decode cX5_isIn 14 = .ok (.iconst 0, 1) := by decide +kernel
theorem dX5_isIn_15 : decode cX5_isIn 15 = .ok (.ireturn, 1) := by decide +kernel
def tab_X5_isIn : List (Nat × Sem) := [(0, op_il 0 1), (1, op_il 1 2), (2, op_cmp (fun x y => x < y) 14 5), (5, op_il 0 6), (6, op_il 2 7), (7, op_cmp (fun x y => y < x) 14 10), (10, op_ic 1 11), (11, op_go 15), (14, op_ic 0 15), (15, op_zret)]
set_option maxRecDepth 20000 in
theorem tok_X5_isIn : ∀ q ∈ tab_X5_isIn, Snd RX5 cX5_isIn 3 0 0 (some .boolean) q.1 q.2 := by
  unfold tab_X5_isIn
  refine tcons (ok_iload_n dX5_isIn_0 rfl rfl) ?_
  refine tcons (ok_iload_n dX5_isIn_1 rfl rfl) ?_
  refine tcons (ok_icmp_lt dX5_isIn_2 rfl rfl) ?_
  refine tcons (ok_iload_n dX5_isIn_5 rfl rfl) ?_
  refine tcons (ok_iload_n dX5_isIn_6 rfl rfl) ?_
  refine tcons (ok_icmp_gt dX5_isIn_7 rfl rfl) ?_
  refine tcons (ok_iconst dX5_isIn_10 rfl rfl) ?_
  refine tcons (ok_goto dX5_isIn_11 rfl) ?_
  refine tcons (ok_iconst dX5_isIn_14 rfl rfl) ?_
  refine tcons (ok_zreturn rfl (Or.inl rfl) dX5_isIn_15) ?_
  exact fun _ h => nomatch h
def sp_X5_isIn : Spc := fun av s N _ => match av with
  | [.inl (.inl v), .inl (.inl a), .inl (.inl b)] => br (inR v a b) N s
  | _ => False
set_option maxRecDepth 20000 in
set_option maxHeartbeats 2000000 in
theorem M_X5_isIn : AMet yX5_isIn cX5_isIn 3 (some .boolean) 0 0 sp_X5_isIn := by
  refine AMet.mk (own := RX5) (by decide) rfl [0, 1, 2] rfl tok_X5_isIn 200 ?_
  intro av s0 N X h
  unfold sp_X5_isIn at h
  split at h
  rotate_left
  · exact h.elim
  refine ⟨fun _ => none, ?_, fun pc P hP => nomatch hP⟩
  repeat' (first | apply And.intro | (intro q; exact absurd q (by decide)) | intro _)
  all_goals first | decide | (exact (rfl : (0 : Nat) = 0)) | (exact Nat.le_of_ble_eq_true rfl) | (simp_all [-Int32.not_lt, -Int32.not_le, br, inR]; done) | (simp_all [-Int32.not_lt, -Int32.not_le, ← Int32.not_le, br, inR]; done) | (simp_all [br, inR]; done)
theorem dX5_thrown_0 : decode cX5_thrown 0 = .ok (.aload_n 0, 1) := by decide +kernel
theorem dX5_thrown_1 : decode cX5_thrown 1 = .ok (.getfield 92, 3) := by decide +kernel
theorem dX5_thrown_4 : decode cX5_thrown 4 = .ok (.ireturn, 1) := by decide +kernel
def tab_X5_thrown : List (Nat × Sem) := [(0, op_al 0 1), (1, op_gf 7 32 4), (4, op_iret)]
set_option maxRecDepth 20000 in
theorem tok_X5_thrown : ∀ q ∈ tab_X5_thrown, Snd RX5 cX5_thrown 1 0 0 (some .int) q.1 q.2 := by
  unfold tab_X5_thrown
  refine tcons (ok_aload_n dX5_thrown_0 rfl rfl) ?_
  refine tcons (ok_getfield (C := RX5) (T := TX5) (n := 33) rfl in_X5 (by decide) w_1025 dX5_thrown_1 rfl) ?_
  refine tcons (ok_ireturn rfl dX5_thrown_4) ?_
  exact fun _ h => nomatch h
def sp_X5_thrown : Spc := fun av s N _ => match av with
  | [.inl (.inr (20, 0))] => N (some (aI (s.2.1 20 0 32))) s
  | _ => False
set_option maxRecDepth 20000 in
set_option maxHeartbeats 2000000 in
theorem M_X5_thrown : AMet yX5_thrown cX5_thrown 1 (some .int) 0 0 sp_X5_thrown := by
  refine AMet.mk (own := RX5) (by decide) rfl [0] rfl tok_X5_thrown 200 ?_
  intro av s0 N X h
  unfold sp_X5_thrown at h
  split at h
  rotate_left
  · exact h.elim
  refine ⟨fun _ => none, ?_, fun pc P hP => nomatch hP⟩
  repeat' (first | apply And.intro | (intro q; exact absurd q (by decide)) | intro _)
  all_goals first | decide | (exact (rfl : (0 : Nat) = 0)) | (exact Nat.le_of_ble_eq_true rfl) | (simp_all [-Int32.not_lt, -Int32.not_le]; done) | (simp_all [-Int32.not_lt, -Int32.not_le, ← Int32.not_le]; done) | (simp_all []; done)
theorem dX5_fails_0 : decode cX5_fails 0 = .ok (.aload_n 0, 1) := by decide +kernel
theorem dX5_fails_1 : decode cX5_fails 1 = .ok (.iload_n 1, 1) := by decide +kernel
theorem dX5_fails_2 : decode cX5_fails 2 = .ok (.putfield 92, 3) := by decide +kernel
theorem dX5_fails_5 : decode cX5_fails 5 = .ok (.iload_n 1, 1) := by decide +kernel
theorem dX5_fails_6 : decode cX5_fails 6 = .ok (.ifCond .le 7, 3) := by decide +kernel
theorem dX5_fails_9 : decode cX5_fails 9 = .ok (.iconst 1, 1) := by decide +kernel
theorem dX5_fails_10 : decode cX5_fails 10 = .ok (.goto 4, 3) := by decide +kernel
theorem dX5_fails_13 : decode cX5_fails 13 = .ok (.iconst 0, 1) := by decide +kernel
theorem dX5_fails_14 : decode cX5_fails 14 = .ok (.ireturn, 1) := by decide +kernel
def tab_X5_fails : List (Nat × Sem) := [(0, op_al 0 1), (1, op_il 1 2), (2, op_pf 7 32 5), (5, op_il 1 6), (6, op_if (fun x => x ≤ 0) 13 9), (9, op_ic 1 10), (10, op_go 14), (13, op_ic 0 14), (14, op_zret)]
set_option maxRecDepth 20000 in
theorem tok_X5_fails : ∀ q ∈ tab_X5_fails, Snd RX5 cX5_fails 2 0 0 (some .boolean) q.1 q.2 := by
  unfold tab_X5_fails
  refine tcons (ok_aload_n dX5_fails_0 rfl rfl) ?_
  refine tcons (ok_iload_n dX5_fails_1 rfl rfl) ?_
  refine tcons (ok_putfield (C := RX5) (T := TX5) (n := 33) tyX5 .int rfl in_X5 tyX5_ok nmX5 (by decide) rfl w_1025 rfl (Or.inl rfl) dX5_fails_2 rfl) ?_
  refine tcons (ok_iload_n dX5_fails_5 rfl rfl) ?_
  refine tcons (ok_if_le dX5_fails_6 rfl rfl) ?_
  refine tcons (ok_iconst dX5_fails_9 rfl rfl) ?_
  refine tcons (ok_goto dX5_fails_10 rfl) ?_
  refine tcons (ok_iconst dX5_fails_13 rfl rfl) ?_
  refine tcons (ok_zreturn rfl (Or.inl rfl) dX5_fails_14) ?_
  exact fun _ h => nomatch h
def sp_X5_fails : Spc := fun av s N _ => match av with
  | [.inl (.inr (20, 0)), .inl (.inl w)] => br (0 < w) N (stS s 20 0 32 w)
  | _ => False
set_option maxRecDepth 20000 in
set_option maxHeartbeats 2000000 in
theorem M_X5_fails : AMet yX5_fails cX5_fails 2 (some .boolean) 0 0 sp_X5_fails := by
  refine AMet.mk (own := RX5) (by decide) rfl [0, 1] rfl tok_X5_fails 200 ?_
  intro av s0 N X h
  unfold sp_X5_fails at h
  split at h
  rotate_left
  · exact h.elim
  refine ⟨fun _ => none, ?_, fun pc P hP => nomatch hP⟩
  repeat' (first | apply And.intro | (intro q; exact absurd q (by decide)) | intro _)
  all_goals first | decide | (exact (rfl : (0 : Nat) = 0)) | (exact Nat.le_of_ble_eq_true rfl) | (simp_all [-Int32.not_lt, -Int32.not_le, br]; done) | (simp_all [-Int32.not_lt, -Int32.not_le, ← Int32.not_le, br]; done) | (simp_all [br]; done)
theorem dX5_isPerson_0 : decode cX5_isPerson 0 = .ok (.iload_n 1, 1) := by decide +kernel
theorem dX5_isPerson_1 : decode cX5_isPerson 1 = .ok (.iconst 0, 1) := by decide +kernel
theorem dX5_isPerson_2 : decode cX5_isPerson 2 = .ok (.aload_n 0, 1) := by decide +kernel
theorem dX5_isPerson_3 : decode cX5_isPerson 3 = .ok (.getfield 96, 3) := by decide +kernel
theorem dX5_isPerson_6 : decode cX5_isPerson 6 = .ok (.iconst 1, 1) := by decide +kernel
theorem dX5_isPerson_7 : decode cX5_isPerson 7 = .ok (.isub, 1) := by decide +kernel
theorem dX5_isPerson_8 : decode cX5_isPerson 8 = .ok (.invokestatic 99, 3) := by decide +kernel
theorem dX5_isPerson_11 : decode cX5_isPerson 11 = .ok (.ireturn, 1) := by decide +kernel
def tab_X5_isPerson : List (Nat × Sem) := [(0, op_il 1 1), (1, op_ic 0 2), (2, op_al 0 3), (3, op_gf 7 1 6), (6, op_ic 1 7), (7, op_bin (fun x y => x - y) 8), (8, op_call sp_X5_isIn 3 0 11), (11, op_zret)]
set_option maxRecDepth 20000 in
theorem tok_X5_isPerson : ∀ q ∈ tab_X5_isPerson, Snd RX5 cX5_isPerson 2 1 0 (some .boolean) q.1 q.2 := by
  unfold tab_X5_isPerson
  refine tcons (ok_iload_n dX5_isPerson_0 rfl rfl) ?_
  refine tcons (ok_iconst dX5_isPerson_1 rfl rfl) ?_
  refine tcons (ok_aload_n dX5_isPerson_2 rfl rfl) ?_
  refine tcons (ok_getfield (C := RX5) (T := TX5) (n := 33) rfl in_X5 (by decide) w_994 dX5_isPerson_3 rfl) ?_
  refine tcons (ok_iconst dX5_isPerson_6 rfl rfl) ?_
  refine tcons (ok_isub dX5_isPerson_7 rfl) ?_
  refine tcons (ok_invokestatic M_X5_isIn w_1105 w_1106 w_49 w_1107 ⟨by decide, by decide, by decide +kernel⟩ (by decide) (by decide) dX5_isPerson_8 rfl) ?_
  refine tcons (ok_zreturn rfl (Or.inl rfl) dX5_isPerson_11) ?_
  exact fun _ h => nomatch h
def sp_X5_isPerson : Spc := fun av s N _ => match av with
  | [.inl (.inr (20, 0)), .inl (.inl p)] => br (inR p 0 (s.2.1 20 0 1 - 1)) N s
  | _ => False
set_option maxRecDepth 20000 in
set_option maxHeartbeats 2000000 in
theorem M_X5_isPerson : AMet yX5_isPerson cX5_isPerson 2 (some .boolean) 1 0 sp_X5_isPerson := by
  refine AMet.mk (own := RX5) (by decide) rfl [0, 1] rfl tok_X5_isPerson 200 ?_
  intro av s0 N X h
  unfold sp_X5_isPerson at h
  split at h
  rotate_left
  · exact h.elim
  refine ⟨fun _ => none, ?_, fun pc P hP => nomatch hP⟩
  repeat' (first | apply And.intro | (intro q; exact absurd q (by decide)) | intro _)
  all_goals first | decide | (exact (rfl : (0 : Nat) = 0)) | (exact Nat.le_of_ble_eq_true rfl) | (simp_all [-Int32.not_lt, -Int32.not_le, br]; done) | (simp_all [-Int32.not_lt, -Int32.not_le, ← Int32.not_le, br]; done) | (simp_all [br]; done)
theorem dX5_isVow_0 : decode cX5_isVow 0 = .ok (.iload_n 1, 1) := by decide +kernel
theorem dX5_isVow_1 : decode cX5_isVow 1 = .ok (.iconst 0, 1) := by decide +kernel
theorem dX5_isVow_2 : decode cX5_isVow 2 = .ok (.aload_n 0, 1) := by decide +kernel
theorem dX5_isVow_3 : decode cX5_isVow 3 = .ok (.getfield 103, 3) := by decide +kernel
theorem dX5_isVow_6 : decode cX5_isVow 6 = .ok (.iconst 1, 1) := by decide +kernel
theorem dX5_isVow_7 : decode cX5_isVow 7 = .ok (.isub, 1) := by decide +kernel
theorem dX5_isVow_8 : decode cX5_isVow 8 = .ok (.invokestatic 99, 3) := by decide +kernel
theorem dX5_isVow_11 : decode cX5_isVow 11 = .ok (.ireturn, 1) := by decide +kernel
def tab_X5_isVow : List (Nat × Sem) := [(0, op_il 1 1), (1, op_ic 0 2), (2, op_al 0 3), (3, op_gf 7 12 6), (6, op_ic 1 7), (7, op_bin (fun x y => x - y) 8), (8, op_call sp_X5_isIn 3 0 11), (11, op_zret)]
set_option maxRecDepth 20000 in
theorem tok_X5_isVow : ∀ q ∈ tab_X5_isVow, Snd RX5 cX5_isVow 2 1 0 (some .boolean) q.1 q.2 := by
  unfold tab_X5_isVow
  refine tcons (ok_iload_n dX5_isVow_0 rfl rfl) ?_
  refine tcons (ok_iconst dX5_isVow_1 rfl rfl) ?_
  refine tcons (ok_aload_n dX5_isVow_2 rfl rfl) ?_
  refine tcons (ok_getfield (C := RX5) (T := TX5) (n := 33) rfl in_X5 (by decide) w_1005 dX5_isVow_3 rfl) ?_
  refine tcons (ok_iconst dX5_isVow_6 rfl rfl) ?_
  refine tcons (ok_isub dX5_isVow_7 rfl) ?_
  refine tcons (ok_invokestatic M_X5_isIn w_1105 w_1106 w_49 w_1107 ⟨by decide, by decide, by decide +kernel⟩ (by decide) (by decide) dX5_isVow_8 rfl) ?_
  refine tcons (ok_zreturn rfl (Or.inl rfl) dX5_isVow_11) ?_
  exact fun _ h => nomatch h
def sp_X5_isVow : Spc := fun av s N _ => match av with
  | [.inl (.inr (20, 0)), .inl (.inl p)] => br (inR p 0 (s.2.1 20 0 12 - 1)) N s
  | _ => False
set_option maxRecDepth 20000 in
set_option maxHeartbeats 2000000 in
theorem M_X5_isVow : AMet yX5_isVow cX5_isVow 2 (some .boolean) 1 0 sp_X5_isVow := by
  refine AMet.mk (own := RX5) (by decide) rfl [0, 1] rfl tok_X5_isVow 200 ?_
  intro av s0 N X h
  unfold sp_X5_isVow at h
  split at h
  rotate_left
  · exact h.elim
  refine ⟨fun _ => none, ?_, fun pc P hP => nomatch hP⟩
  repeat' (first | apply And.intro | (intro q; exact absurd q (by decide)) | intro _)
  all_goals first | decide | (exact (rfl : (0 : Nat) = 0)) | (exact Nat.le_of_ble_eq_true rfl) | (simp_all [-Int32.not_lt, -Int32.not_le, br]; done) | (simp_all [-Int32.not_lt, -Int32.not_le, ← Int32.not_le, br]; done) | (simp_all [br]; done)
theorem dX5_isCause_0 : decode cX5_isCause 0 = .ok (.iload_n 1, 1) := by decide +kernel
theorem dX5_isCause_1 : decode cX5_isCause 1 = .ok (.iconst 0, 1) := by decide +kernel
theorem dX5_isCause_2 : decode cX5_isCause 2 = .ok (.aload_n 0, 1) := by decide +kernel
theorem dX5_isCause_3 : decode cX5_isCause 3 = .ok (.getfield 161, 3) := by decide +kernel
theorem dX5_isCause_6 : decode cX5_isCause 6 = .ok (.iconst 1, 1) := by decide +kernel
theorem dX5_isCause_7 : decode cX5_isCause 7 = .ok (.isub, 1) := by decide +kernel
theorem dX5_isCause_8 : decode cX5_isCause 8 = .ok (.invokestatic 99, 3) := by decide +kernel
theorem dX5_isCause_11 : decode cX5_isCause 11 = .ok (.ireturn, 1) := by decide +kernel
def tab_X5_isCause : List (Nat × Sem) := [(0, op_il 1 1), (1, op_ic 0 2), (2, op_al 0 3), (3, op_gf 7 21 6), (6, op_ic 1 7), (7, op_bin (fun x y => x - y) 8), (8, op_call sp_X5_isIn 3 0 11), (11, op_zret)]
set_option maxRecDepth 20000 in
theorem tok_X5_isCause : ∀ q ∈ tab_X5_isCause, Snd RX5 cX5_isCause 2 1 0 (some .boolean) q.1 q.2 := by
  unfold tab_X5_isCause
  refine tcons (ok_iload_n dX5_isCause_0 rfl rfl) ?_
  refine tcons (ok_iconst dX5_isCause_1 rfl rfl) ?_
  refine tcons (ok_aload_n dX5_isCause_2 rfl rfl) ?_
  refine tcons (ok_getfield (C := RX5) (T := TX5) (n := 33) rfl in_X5 (by decide) w_1014 dX5_isCause_3 rfl) ?_
  refine tcons (ok_iconst dX5_isCause_6 rfl rfl) ?_
  refine tcons (ok_isub dX5_isCause_7 rfl) ?_
  refine tcons (ok_invokestatic M_X5_isIn w_1105 w_1106 w_49 w_1107 ⟨by decide, by decide, by decide +kernel⟩ (by decide) (by decide) dX5_isCause_8 rfl) ?_
  refine tcons (ok_zreturn rfl (Or.inl rfl) dX5_isCause_11) ?_
  exact fun _ h => nomatch h
def sp_X5_isCause : Spc := fun av s N _ => match av with
  | [.inl (.inr (20, 0)), .inl (.inl p)] => br (inR p 0 (s.2.1 20 0 21 - 1)) N s
  | _ => False
set_option maxRecDepth 20000 in
set_option maxHeartbeats 2000000 in
theorem M_X5_isCause : AMet yX5_isCause cX5_isCause 2 (some .boolean) 1 0 sp_X5_isCause := by
  refine AMet.mk (own := RX5) (by decide) rfl [0, 1] rfl tok_X5_isCause 200 ?_
  intro av s0 N X h
  unfold sp_X5_isCause at h
  split at h
  rotate_left
  · exact h.elim
  refine ⟨fun _ => none, ?_, fun pc P hP => nomatch hP⟩
  repeat' (first | apply And.intro | (intro q; exact absurd q (by decide)) | intro _)
  all_goals first | decide | (exact (rfl : (0 : Nat) = 0)) | (exact Nat.le_of_ble_eq_true rfl) | (simp_all [-Int32.not_lt, -Int32.not_le, br]; done) | (simp_all [-Int32.not_lt, -Int32.not_le, ← Int32.not_le, br]; done) | (simp_all [br]; done)
theorem dX5_isPlace_0 : decode cX5_isPlace 0 = .ok (.iload_n 0, 1) := by decide +kernel
theorem dX5_isPlace_1 : decode cX5_isPlace 1 = .ok (.iconst 0, 1) := by decide +kernel
theorem dX5_isPlace_2 : decode cX5_isPlace 2 = .ok (.bipush 7, 2) := by decide +kernel
theorem dX5_isPlace_4 : decode cX5_isPlace 4 = .ok (.invokestatic 99, 3) := by decide +kernel
theorem dX5_isPlace_7 : decode cX5_isPlace 7 = .ok (.ireturn, 1) := by decide +kernel
def tab_X5_isPlace : List (Nat × Sem) := [(0, op_il 0 1), (1, op_ic 0 2), (2, op_ic 7 4), (4, op_call sp_X5_isIn 3 0 7), (7, op_zret)]
set_option maxRecDepth 20000 in
theorem tok_X5_isPlace : ∀ q ∈ tab_X5_isPlace, Snd RX5 cX5_isPlace 1 1 0 (some .boolean) q.1 q.2 := by
  unfold tab_X5_isPlace
  refine tcons (ok_iload_n dX5_isPlace_0 rfl rfl) ?_
  refine tcons (ok_iconst dX5_isPlace_1 rfl rfl) ?_
  refine tcons (ok_bipush dX5_isPlace_2 rfl rfl) ?_
  refine tcons (ok_invokestatic M_X5_isIn w_1105 w_1106 w_49 w_1107 ⟨by decide, by decide, by decide +kernel⟩ (by decide) (by decide) dX5_isPlace_4 rfl) ?_
  refine tcons (ok_zreturn rfl (Or.inl rfl) dX5_isPlace_7) ?_
  exact fun _ h => nomatch h
def sp_X5_isPlace : Spc := fun av s N _ => match av with
  | [.inl (.inl p)] => br (inR p 0 7) N s
  | _ => False
set_option maxRecDepth 20000 in
set_option maxHeartbeats 2000000 in
theorem M_X5_isPlace : AMet yX5_isPlace cX5_isPlace 1 (some .boolean) 1 0 sp_X5_isPlace := by
  refine AMet.mk (own := RX5) (by decide) rfl [0] rfl tok_X5_isPlace 200 ?_
  intro av s0 N X h
  unfold sp_X5_isPlace at h
  split at h
  rotate_left
  · exact h.elim
  refine ⟨fun _ => none, ?_, fun pc P hP => nomatch hP⟩
  repeat' (first | apply And.intro | (intro q; exact absurd q (by decide)) | intro _)
  all_goals first | decide | (exact (rfl : (0 : Nat) = 0)) | (exact Nat.le_of_ble_eq_true rfl) | (simp_all [-Int32.not_lt, -Int32.not_le, br]; done) | (simp_all [-Int32.not_lt, -Int32.not_le, ← Int32.not_le, br]; done) | (simp_all [br]; done)
theorem dX5_isWitness_0 : decode cX5_isWitness 0 = .ok (.iload_n 0, 1) := by decide +kernel
theorem dX5_isWitness_1 : decode cX5_isWitness 1 = .ok (.iconst 0, 1) := by decide +kernel
theorem dX5_isWitness_2 : decode cX5_isWitness 2 = .ok (.iconst 5, 1) := by decide +kernel
theorem dX5_isWitness_3 : decode cX5_isWitness 3 = .ok (.invokestatic 99, 3) := by decide +kernel
theorem dX5_isWitness_6 : decode cX5_isWitness 6 = .ok (.ireturn, 1) := by decide +kernel
def tab_X5_isWitness : List (Nat × Sem) := [(0, op_il 0 1), (1, op_ic 0 2), (2, op_ic 5 3), (3, op_call sp_X5_isIn 3 0 6), (6, op_zret)]
set_option maxRecDepth 20000 in
theorem tok_X5_isWitness : ∀ q ∈ tab_X5_isWitness, Snd RX5 cX5_isWitness 1 1 0 (some .boolean) q.1 q.2 := by
  unfold tab_X5_isWitness
  refine tcons (ok_iload_n dX5_isWitness_0 rfl rfl) ?_
  refine tcons (ok_iconst dX5_isWitness_1 rfl rfl) ?_
  refine tcons (ok_iconst dX5_isWitness_2 rfl rfl) ?_
  refine tcons (ok_invokestatic M_X5_isIn w_1105 w_1106 w_49 w_1107 ⟨by decide, by decide, by decide +kernel⟩ (by decide) (by decide) dX5_isWitness_3 rfl) ?_
  refine tcons (ok_zreturn rfl (Or.inl rfl) dX5_isWitness_6) ?_
  exact fun _ h => nomatch h
def sp_X5_isWitness : Spc := fun av s N _ => match av with
  | [.inl (.inl p)] => br (inR p 0 5) N s
  | _ => False
set_option maxRecDepth 20000 in
set_option maxHeartbeats 2000000 in
theorem M_X5_isWitness : AMet yX5_isWitness cX5_isWitness 1 (some .boolean) 1 0 sp_X5_isWitness := by
  refine AMet.mk (own := RX5) (by decide) rfl [0] rfl tok_X5_isWitness 200 ?_
  intro av s0 N X h
  unfold sp_X5_isWitness at h
  split at h
  rotate_left
  · exact h.elim
  refine ⟨fun _ => none, ?_, fun pc P hP => nomatch hP⟩
  repeat' (first | apply And.intro | (intro q; exact absurd q (by decide)) | intro _)
  all_goals first | decide | (exact (rfl : (0 : Nat) = 0)) | (exact Nat.le_of_ble_eq_true rfl) | (simp_all [-Int32.not_lt, -Int32.not_le, br]; done) | (simp_all [-Int32.not_lt, -Int32.not_le, ← Int32.not_le, br]; done) | (simp_all [br]; done)
theorem dX5_isDoubt_0 : decode cX5_isDoubt 0 = .ok (.iload_n 0, 1) := by decide +kernel
theorem dX5_isDoubt_1 : decode cX5_isDoubt 1 = .ok (.iconst 1, 1) := by decide +kernel
theorem dX5_isDoubt_2 : decode cX5_isDoubt 2 = .ok (.bipush 127, 2) := by decide +kernel
theorem dX5_isDoubt_4 : decode cX5_isDoubt 4 = .ok (.invokestatic 99, 3) := by decide +kernel
theorem dX5_isDoubt_7 : decode cX5_isDoubt 7 = .ok (.ireturn, 1) := by decide +kernel
def tab_X5_isDoubt : List (Nat × Sem) := [(0, op_il 0 1), (1, op_ic 1 2), (2, op_ic 127 4), (4, op_call sp_X5_isIn 3 0 7), (7, op_zret)]
set_option maxRecDepth 20000 in
theorem tok_X5_isDoubt : ∀ q ∈ tab_X5_isDoubt, Snd RX5 cX5_isDoubt 1 1 0 (some .boolean) q.1 q.2 := by
  unfold tab_X5_isDoubt
  refine tcons (ok_iload_n dX5_isDoubt_0 rfl rfl) ?_
  refine tcons (ok_iconst dX5_isDoubt_1 rfl rfl) ?_
  refine tcons (ok_bipush dX5_isDoubt_2 rfl rfl) ?_
  refine tcons (ok_invokestatic M_X5_isIn w_1105 w_1106 w_49 w_1107 ⟨by decide, by decide, by decide +kernel⟩ (by decide) (by decide) dX5_isDoubt_4 rfl) ?_
  refine tcons (ok_zreturn rfl (Or.inl rfl) dX5_isDoubt_7) ?_
  exact fun _ h => nomatch h
def sp_X5_isDoubt : Spc := fun av s N _ => match av with
  | [.inl (.inl p)] => br (inR p 1 127) N s
  | _ => False
set_option maxRecDepth 20000 in
set_option maxHeartbeats 2000000 in
theorem M_X5_isDoubt : AMet yX5_isDoubt cX5_isDoubt 1 (some .boolean) 1 0 sp_X5_isDoubt := by
  refine AMet.mk (own := RX5) (by decide) rfl [0] rfl tok_X5_isDoubt 200 ?_
  intro av s0 N X h
  unfold sp_X5_isDoubt at h
  split at h
  rotate_left
  · exact h.elim
  refine ⟨fun _ => none, ?_, fun pc P hP => nomatch hP⟩
  repeat' (first | apply And.intro | (intro q; exact absurd q (by decide)) | intro _)
  all_goals first | decide | (exact (rfl : (0 : Nat) = 0)) | (exact Nat.le_of_ble_eq_true rfl) | (simp_all [-Int32.not_lt, -Int32.not_le, br]; done) | (simp_all [-Int32.not_lt, -Int32.not_le, ← Int32.not_le, br]; done) | (simp_all [br]; done)
/-- the model's calls: first one reason to fail, then another -/
abbrev th (s : Sg) (k : Int32) : Sg := stS s 20 0 32 k
def f1 (c : Prop) (v : Option AV) (N : Nt) (s : Sg) (F : Prop) : Prop := (¬ c → N v (th s 1)) ∧ (c → F)
def f2 (c1 c2 : Prop) (v : Option AV) (N : Nt) (s : Sg) (F : Prop) : Prop := (¬ c1 → N v (th s 1)) ∧ (c1 → ¬ c2 → N v (th s 2)) ∧ (c1 → c2 → F)
def f3 (c1 c2 c3 : Prop) (v : Option AV) (N : Nt) (s : Sg) (F : Prop) : Prop := (¬ c1 → N v (th s 1)) ∧ (c1 → ¬ c2 → N v (th s 2)) ∧ (c1 → c2 → ¬ c3 → N v (th s 3)) ∧ (c1 → c2 → c3 → F)
abbrev isP (s : Sg) (p : Int32) : Prop := inR p 0 (s.2.1 20 0 1 - 1)
abbrev isV (s : Sg) (p : Int32) : Prop := inR p 0 (s.2.1 20 0 12 - 1)
abbrev isC (s : Sg) (p : Int32) : Prop := inR p 0 (s.2.1 20 0 21 - 1)
abbrev cl (p : Int32) : Nat := p.toNatClampNeg
theorem MI_p {s : Sg} (h : MI s) {p : Int32} (hp : isP s p) : vp_in p 24 := by
  obtain ⟨⟨n, h1, h2⟩, -⟩ := of_eq_true h
  exact ix_vp hp h2 h1 (by decide)
theorem MI_v {s : Sg} (h : MI s) {p : Int32} (hp : isV s p) : vp_in p 30 := by
  obtain ⟨-, ⟨n, h1, h2⟩, -⟩ := of_eq_true h
  exact ix_vp hp h2 h1 (by decide)
theorem MI_c {s : Sg} (h : MI s) {p : Int32} (hp : isC s p) : vp_in p 30 := by
  obtain ⟨-, -, ⟨n, h1, h2⟩⟩ := of_eq_true h
  exact ix_vp hp h2 h1 (by decide)
theorem dX5_rite_0 : decode cX5_rite 0 = .ok (.aload_n 0, 1) := by decide +kernel
theorem dX5_rite_1 : decode cX5_rite 1 = .ok (.aload_n 0, 1) := by decide +kernel
theorem dX5_rite_2 : decode cX5_rite 2 = .ok (.iload_n 1, 1) := by decide +kernel
theorem dX5_rite_3 : decode cX5_rite 3 = .ok (.invokevirtual 106, 3) := by decide +kernel
theorem dX5_rite_6 : decode cX5_rite 6 = .ok (.ifCond .ne 7, 3) := by decide +kernel
theorem dX5_rite_9 : decode cX5_rite 9 = .ok (.iconst 1, 1) := by decide +kernel
theorem dX5_rite_10 : decode cX5_rite 10 = .ok (.goto 17, 3) := by decide +kernel
theorem dX5_rite_13 : decode cX5_rite 13 = .ok (.iload_n 2, 1) := by decide +kernel
theorem dX5_rite_14 : decode cX5_rite 14 = .ok (.iconst 0, 1) := by decide +kernel
theorem dX5_rite_15 : decode cX5_rite 15 = .ok (.iconst 2, 1) := by decide +kernel
theorem dX5_rite_16 : decode cX5_rite 16 = .ok (.invokestatic 99, 3) := by decide +kernel
theorem dX5_rite_19 : decode cX5_rite 19 = .ok (.ifCond .eq 7, 3) := by decide +kernel
theorem dX5_rite_22 : decode cX5_rite 22 = .ok (.iconst 0, 1) := by decide +kernel
theorem dX5_rite_23 : decode cX5_rite 23 = .ok (.goto 4, 3) := by decide +kernel
theorem dX5_rite_26 : decode cX5_rite 26 = .ok (.iconst 2, 1) := by decide +kernel
theorem dX5_rite_27 : decode cX5_rite 27 = .ok (.invokevirtual 114, 3) := by decide +kernel
theorem dX5_rite_30 : decode cX5_rite 30 = .ok (.ifCond .eq 5, 3) := by decide +kernel
theorem dX5_rite_33 : decode cX5_rite 33 = .ok (.iconst 0, 1) := by decide +kernel
theorem dX5_rite_34 : decode cX5_rite 34 = .ok (.ireturn, 1) := by decide +kernel
theorem dX5_rite_35 : decode cX5_rite 35 = .ok (.aload_n 0, 1) := by decide +kernel
theorem dX5_rite_36 : decode cX5_rite 36 = .ok (.getfield 16, 3) := by decide +kernel
theorem dX5_rite_39 : decode cX5_rite 39 = .ok (.iload_n 1, 1) := by decide +kernel
theorem dX5_rite_40 : decode cX5_rite 40 = .ok (.iaload, 1) := by decide +kernel
theorem dX5_rite_41 : decode cX5_rite 41 = .ok (.istore_n 3, 1) := by decide +kernel
theorem dX5_rite_42 : decode cX5_rite 42 = .ok (.aload_n 0, 1) := by decide +kernel
theorem dX5_rite_43 : decode cX5_rite 43 = .ok (.getfield 16, 3) := by decide +kernel
theorem dX5_rite_46 : decode cX5_rite 46 = .ok (.iload_n 1, 1) := by decide +kernel
theorem dX5_rite_47 : decode cX5_rite 47 = .ok (.iload_n 2, 1) := by decide +kernel
theorem dX5_rite_48 : decode cX5_rite 48 = .ok (.iastore, 1) := by decide +kernel
theorem dX5_rite_49 : decode cX5_rite 49 = .ok (.iload_n 3, 1) := by decide +kernel
theorem dX5_rite_50 : decode cX5_rite 50 = .ok (.ireturn, 1) := by decide +kernel
def tab_X5_rite : List (Nat × Sem) := [(0, op_al 0 1), (1, op_al 0 2), (2, op_il 1 3), (3, op_callV 7 sp_X5_isPerson 2 0 6), (6, op_if (fun x => ¬ x = 0) 13 9), (9, op_ic 1 10), (10, op_go 27), (13, op_il 2 14), (14, op_ic 0 15), (15, op_ic 2 16), (16, op_call sp_X5_isIn 3 0 19), (19, op_if (fun x => x = 0) 26 22), (22, op_ic 0 23), (23, op_go 27), (26, op_ic 2 27), (27, op_callV 7 sp_X5_fails 2 0 30), (30, op_if (fun x => x = 0) 35 33), (33, op_ic 0 34), (34, op_iret), (35, op_al 0 36), (36, op_gf 7 4 39), (39, op_il 1 40), (40, op_iald 41), (41, op_is 3 42), (42, op_al 0 43), (43, op_gf 7 4 46), (46, op_il 1 47), (47, op_il 2 48), (48, op_iast 49), (49, op_il 3 50), (50, op_iret)]
set_option maxRecDepth 20000 in
theorem tok_X5_rite : ∀ q ∈ tab_X5_rite, Snd RX5 cX5_rite 4 2 0 (some .int) q.1 q.2 := by
  unfold tab_X5_rite
  refine tcons (ok_aload_n dX5_rite_0 rfl rfl) ?_
  refine tcons (ok_aload_n dX5_rite_1 rfl rfl) ?_
  refine tcons (ok_iload_n dX5_rite_2 rfl rfl) ?_
  refine tcons (ok_invokevirtual M_X5_isPerson (C := RX5) (T := TX5) (nf := 33) rfl w_1101 w_1103 w_19 w_49 w_1104 ⟨rfl, by decide, by decide, by decide +kernel⟩ (by decide) (by decide) dX5_rite_3 rfl) ?_
  refine tcons (ok_if_ne dX5_rite_6 rfl rfl) ?_
  refine tcons (ok_iconst dX5_rite_9 rfl rfl) ?_
  refine tcons (ok_goto dX5_rite_10 rfl) ?_
  refine tcons (ok_iload_n dX5_rite_13 rfl rfl) ?_
  refine tcons (ok_iconst dX5_rite_14 rfl rfl) ?_
  refine tcons (ok_iconst dX5_rite_15 rfl rfl) ?_
  refine tcons (ok_invokestatic M_X5_isIn w_1105 w_1106 w_49 w_1107 ⟨by decide, by decide, by decide +kernel⟩ (by decide) (by decide) dX5_rite_16 rfl) ?_
  refine tcons (ok_if_eq dX5_rite_19 rfl rfl) ?_
  refine tcons (ok_iconst dX5_rite_22 rfl rfl) ?_
  refine tcons (ok_goto dX5_rite_23 rfl) ?_
  refine tcons (ok_iconst dX5_rite_26 rfl rfl) ?_
  refine tcons (ok_invokevirtual M_X5_fails (C := RX5) (T := TX5) (nf := 33) rfl w_1112 w_1114 w_20 w_49 w_1115 ⟨rfl, by decide, by decide, by decide +kernel⟩ (by decide) (by decide) dX5_rite_27 rfl) ?_
  refine tcons (ok_if_eq dX5_rite_30 rfl rfl) ?_
  refine tcons (ok_iconst dX5_rite_33 rfl rfl) ?_
  refine tcons (ok_ireturn rfl dX5_rite_34) ?_
  refine tcons (ok_aload_n dX5_rite_35 rfl rfl) ?_
  refine tcons (ok_getfield (C := RX5) (T := TX5) (n := 33) rfl in_X5 (by decide) w_997 dX5_rite_36 rfl) ?_
  refine tcons (ok_iload_n dX5_rite_39 rfl rfl) ?_
  refine tcons (ok_iaload dX5_rite_40 rfl) ?_
  refine tcons (ok_istore_n dX5_rite_41 rfl (by decide) rfl) ?_
  refine tcons (ok_aload_n dX5_rite_42 rfl rfl) ?_
  refine tcons (ok_getfield (C := RX5) (T := TX5) (n := 33) rfl in_X5 (by decide) w_997 dX5_rite_43 rfl) ?_
  refine tcons (ok_iload_n dX5_rite_46 rfl rfl) ?_
  refine tcons (ok_iload_n dX5_rite_47 rfl rfl) ?_
  refine tcons (ok_iastore dX5_rite_48 rfl) ?_
  refine tcons (ok_iload_n dX5_rite_49 rfl rfl) ?_
  refine tcons (ok_ireturn rfl dX5_rite_50) ?_
  exact fun _ h => nomatch h
def sp_X5_rite : Spc := fun av s N _ => match av with
  | [.inl (.inr (20, 0)), .inl (.inl p), .inl (.inl r)] => MI s ∧ f2 (isP s p) (inR r 0 2) (some (aI 0)) N s (N (some (aI (s.2.1 24 0 (cl p)))) (stS (th s 0) 24 0 (cl p) r))
  | _ => False
set_option maxRecDepth 20000 in
set_option maxHeartbeats 2000000 in
theorem M_X5_rite : AMet yX5_rite cX5_rite 4 (some .int) 2 0 sp_X5_rite := by
  refine AMet.mk (own := RX5) (by decide) rfl [0, 1, 2, 3] rfl tok_X5_rite 200 ?_
  intro av s0 N X h
  unfold sp_X5_rite at h
  split at h
  rotate_left
  · exact h.elim
  refine ⟨fun _ => none, ?_, fun pc P hP => nomatch hP⟩
  repeat' (first | apply And.intro | (intro q; exact absurd q (by decide)) | intro _)
  all_goals first | decide | (exact (rfl : (0 : Nat) = 0)) | (exact Nat.le_of_ble_eq_true rfl) | (exact Ib_of (MI_p h.1 (by assumption))) | (simp_all [-Int32.not_lt, -Int32.not_le, f2, stS_get]; done) | (simp_all [-Int32.not_lt, -Int32.not_le, ← Int32.not_le, f2, stS_get]; done) | (simp_all [f2, stS_get]; done)

