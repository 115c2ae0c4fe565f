/-! the model's small methods -/
/-- a truth value's two ways -/
def br (P : Prop) (N : Nt) (s : Sg) : Prop := (P → N (some (aI 1)) s) ∧ (¬ P → N (some (aI 0)) s)
theorem stS_get {s : Sg} {t i j a b c : Nat} {v : Int32} : (stS s t i j v).2.1 a b c = if a = t ∧ b = i ∧ c = j then v else s.2.1 a b c := rfl
theorem stS_1 {s : Sg} {t i j : Nat} {v : Int32} : (stS s t i j v).1 = s.1 := rfl
theorem stS_3 {s : Sg} {t i j : Nat} {v : Int32} : (stS s t i j v).2.2 = s.2.2 := rfl
/-- an int within bounds, as the code asks it -/
def inR (v a b : Int32) : Prop := ¬ v < a ∧ ¬ b < v
/-- how many persons, vows, causes the model has -/
def MI (s : Sg) : Prop := (∃ n, n ≤ 24 ∧ s.2.1 20 0 1 = nI n) ∧ (∃ n, n ≤ 30 ∧ s.2.1 20 0 12 = nI n) ∧ (∃ n, n ≤ 30 ∧ s.2.1 20 0 21 = nI n)
theorem ix_vp {p m : Int32} {k N : Nat} (h : inR p 0 (m - 1)) (hm : m = nI k) (hk : k ≤ N) (hN : N < 2 ^ 30) : vp_in p N := by
  obtain ⟨h1, h2⟩ := h
  subst hm
  rintro (q | q)
  · exact h1 q
  · obtain ⟨j, hj, rfl⟩ := nI_of h1
    rw [nI_clamp hj] at q
    cases k with
    | zero =>
      have e : nI 0 - 1 = -1 := rfl
      rw [e] at h2
      refine h2 ?_
      rw [Int32.lt_iff_toInt_lt, nI_toInt hj]
      have : (-1 : Int32).toInt = -1 := rfl
      omega
    | succ k =>
      rw [nI_pred] at h2
      exact h2 (nI_lt (by omega) hj)
theorem rg_vp {p b : Int32} {N : Nat} (h : inR p 0 b) (hb : b.toInt + 1 ≤ N) (hN : N < 2 ^ 30) : vp_in p N := by
  obtain ⟨h1, h2⟩ := h
  rintro (q | q)
  · exact h1 q
  · obtain ⟨j, hj, rfl⟩ := nI_of h1
    rw [nI_clamp hj] at q
    refine h2 ?_
    rw [Int32.lt_iff_toInt_lt, nI_toInt hj]
    omega
theorem dX5_isIn_0 : decode cX5_isIn 0 = .ok (.iload_n 0, 1) := by decide +kernel
theorem dX5_isIn_1 : decode cX5_isIn 1 = .ok (.iload_n 1, 1) := by decide +kernel
theorem dX5_isIn_2 : decode cX5_isIn 2 = .ok (.if_icmp .lt 12, 3) := by decide +kernel
theorem dX5_isIn_5 : decode cX5_isIn 5 = .ok (.iload_n 0, 1) := by decide +kernel
theorem dX5_isIn_6 : decode cX5_isIn 6 = .ok (.iload_n 2, 1) := by decide +kernel
theorem dX5_isIn_7 : decode cX5_isIn 7 = .ok (.if_icmp .gt 7, 3) := by decide +kernel
theorem dX5_isIn_10 : decode cX5_isIn 10 = .ok (.iconst 1, 1) := by decide +kernel
theorem dX5_isIn_11 : decode cX5_isIn 11 = .ok (.goto 4, 3) := by decide +kernel
theorem dX5_isIn_14 : decode cX5_isIn 14 = .ok (.iconst 0, 1) := by decide +kernel
theorem dX5_isIn_15 : decode cX5_isIn 15 = .ok (.ireturn, 1) := by decide +kernel
def tab_X5_isIn : List (Nat × Sem) := [(0, op_il 0 1), (1, op_il 1 2), (2, op_cmp (fun x y => x < y) 14 5), (5, op_il 0 6), (6, op_il 2 7), (7, op_cmp (fun x y => y < x) 14 10), (10, op_ic 1 11), (11, op_go 15), (14, op_ic 0 15), (15, op_zret)]
set_option maxRecDepth 20000 in
theorem tok_X5_isIn : ∀ q ∈ tab_X5_isIn, Snd RX5 cX5_isIn 3 0 0 (some .boolean) q.1 q.2 := by
  unfold tab_X5_isIn
  refine tcons (ok_iload_n dX5_isIn_0 rfl rfl) ?_
  refine tcons (ok_iload_n dX5_isIn_1 rfl rfl) ?_
  refine tcons (ok_icmp_lt dX5_isIn_2 rfl rfl) ?_
  refine tcons (ok_iload_n dX5_isIn_5 rfl rfl) ?_
  refine tcons (ok_iload_n dX5_isIn_6 rfl rfl) ?_
  refine tcons (ok_icmp_gt dX5_isIn_7 rfl rfl) ?_
  refine tcons (ok_iconst dX5_isIn_10 rfl rfl) ?_
  refine tcons (ok_goto dX5_isIn_11 rfl) ?_
  refine tcons (ok_iconst dX5_isIn_14 rfl rfl) ?_
  refine tcons (ok_zreturn rfl (Or.inl rfl) dX5_isIn_15) ?_
  exact fun _ h => nomatch h
def sp_X5_isIn : Spc := fun av s N _ => match av with
  | [.inl (.inl v), .inl (.inl a), .inl (.inl b)] => br (inR v a b) N s
  | _ => False
theorem M_X5_isIn : AMet yX5_isIn cX5_isIn 3 (some .boolean) 0 0 sp_X5_isIn := by
  refine AMet.mk (own := RX5) (by decide) rfl [0, 1, 2] rfl tok_X5_isIn 40 ?_
  intro av s0 N X h
  unfold sp_X5_isIn at h
  split at h
  · refine ⟨fun _ => none, ?_, fun pc P hP => nomatch hP⟩
    repeat' (first | apply And.intro | (intro q; exact absurd q (by decide)) | intro _)
    all_goals first | decide | simp_all [br, inR]
  · exact h.elim
theorem dX5_thrown_0 : decode cX5_thrown 0 = .ok (.aload_n 0, 1) := by decide +kernel
theorem dX5_thrown_1 : decode cX5_thrown 1 = .ok (.getfield 92, 3) := by decide +kernel
theorem dX5_thrown_4 : decode cX5_thrown 4 = .ok (.ireturn, 1) := by decide +kernel
def tab_X5_thrown : List (Nat × Sem) := [(0, op_al 0 1), (1, op_gf 7 32 4), (4, op_iret)]
set_option maxRecDepth 20000 in
theorem tok_X5_thrown : ∀ q ∈ tab_X5_thrown, Snd RX5 cX5_thrown 1 0 0 (some .int) q.1 q.2 := by
  unfold tab_X5_thrown
  refine tcons (ok_aload_n dX5_thrown_0 rfl rfl) ?_
  refine tcons (ok_getfield (C := RX5) (T := TX5) (n := 33) rfl in_X5 (by decide) w_1025 dX5_thrown_1 rfl) ?_
  refine tcons (ok_ireturn rfl dX5_thrown_4) ?_
  exact fun _ h => nomatch h
def sp_X5_thrown : Spc := fun av s N _ => match av with
  | [.inl (.inr (20, 0))] => N (some (aI (s.2.1 20 0 32))) s
  | _ => False
theorem M_X5_thrown : AMet yX5_thrown cX5_thrown 1 (some .int) 0 0 sp_X5_thrown := by
  refine AMet.mk (own := RX5) (by decide) rfl [0] rfl tok_X5_thrown 40 ?_
  intro av s0 N X h
  unfold sp_X5_thrown at h
  split at h
  · refine ⟨fun _ => none, ?_, fun pc P hP => nomatch hP⟩
    repeat' (first | apply And.intro | (intro q; exact absurd q (by decide)) | intro _)
    all_goals first | decide | simp_all
  · exact h.elim
theorem dX5_fails_0 : decode cX5_fails 0 = .ok (.aload_n 0, 1) := by decide +kernel
theorem dX5_fails_1 : decode cX5_fails 1 = .ok (.iload_n 1, 1) := by decide +kernel
theorem dX5_fails_2 : decode cX5_fails 2 = .ok (.putfield 92, 3) := by decide +kernel
theorem dX5_fails_5 : decode cX5_fails 5 = .ok (.iload_n 1, 1) := by decide +kernel
theorem dX5_fails_6 : decode cX5_fails 6 = .ok (.ifCond .le 7, 3) := by decide +kernel
theorem dX5_fails_9 : decode cX5_fails 9 = .ok (.iconst 1, 1) := by decide +kernel
theorem dX5_fails_10 : decode cX5_fails 10 = .ok (.goto 4, 3) := by decide +kernel
theorem dX5_fails_13 : decode cX5_fails 13 = .ok (.iconst 0, 1) := by decide +kernel
theorem dX5_fails_14 : decode cX5_fails 14 = .ok (.ireturn, 1) := by decide +kernel
def tab_X5_fails : List (Nat × Sem) := [(0, op_al 0 1), (1, op_il 1 2), (2, op_pf 7 32 5), (5, op_il 1 6), (6, op_if (fun x => x ≤ 0) 13 9), (9, op_ic 1 10), (10, op_go 14), (13, op_ic 0 14), (14, op_zret)]
set_option maxRecDepth 20000 in
theorem tok_X5_fails : ∀ q ∈ tab_X5_fails, Snd RX5 cX5_fails 2 0 0 (some .boolean) q.1 q.2 := by
  unfold tab_X5_fails
  refine tcons (ok_aload_n dX5_fails_0 rfl rfl) ?_
  refine tcons (ok_iload_n dX5_fails_1 rfl rfl) ?_
  refine tcons (ok_putfield (C := RX5) (T := TX5) (n := 33) tyX5 .int rfl in_X5 tyX5_ok nmX5 (by decide) rfl w_1025 rfl (Or.inl rfl) dX5_fails_2 rfl) ?_
  refine tcons (ok_iload_n dX5_fails_5 rfl rfl) ?_
  refine tcons (ok_if_le dX5_fails_6 rfl rfl) ?_
  refine tcons (ok_iconst dX5_fails_9 rfl rfl) ?_
  refine tcons (ok_goto dX5_fails_10 rfl) ?_
  refine tcons (ok_iconst dX5_fails_13 rfl rfl) ?_
  refine tcons (ok_zreturn rfl (Or.inl rfl) dX5_fails_14) ?_
  exact fun _ h => nomatch h
def sp_X5_fails : Spc := fun av s N _ => match av with
  | [.inl (.inr (20, 0)), .inl (.inl w)] => br (0 < w) N (stS s 20 0 32 w)
  | _ => False
theorem M_X5_fails : AMet yX5_fails cX5_fails 2 (some .boolean) 0 0 sp_X5_fails := by
  refine AMet.mk (own := RX5) (by decide) rfl [0, 1] rfl tok_X5_fails 40 ?_
  intro av s0 N X h
  unfold sp_X5_fails at h
  split at h
  · refine ⟨fun _ => none, ?_, fun pc P hP => nomatch hP⟩
    repeat' (first | apply And.intro | (intro q; exact absurd q (by decide)) | intro _)
    all_goals first | decide | simp_all [br]
  · exact h.elim
theorem dX5_isPerson_0 : decode cX5_isPerson 0 = .ok (.iload_n 1, 1) := by decide +kernel
theorem dX5_isPerson_1 : decode cX5_isPerson 1 = .ok (.iconst 0, 1) := by decide +kernel
theorem dX5_isPerson_2 : decode cX5_isPerson 2 = .ok (.aload_n 0, 1) := by decide +kernel
theorem dX5_isPerson_3 : decode cX5_isPerson 3 = .ok (.getfield 96, 3) := by decide +kernel
theorem dX5_isPerson_6 : decode cX5_isPerson 6 = .ok (.iconst 1, 1) := by decide +kernel
theorem dX5_isPerson_7 : decode cX5_isPerson 7 = .ok (.isub, 1) := by decide +kernel
theorem dX5_isPerson_8 : decode cX5_isPerson 8 = .ok (.invokestatic 99, 3) := by decide +kernel
theorem dX5_isPerson_11 : decode cX5_isPerson 11 = .ok (.ireturn, 1) := by decide +kernel
def tab_X5_isPerson : List (Nat × Sem) := [(0, op_il 1 1), (1, op_ic 0 2), (2, op_al 0 3), (3, op_gf 7 1 6), (6, op_ic 1 7), (7, op_bin (fun x y => x - y) 8), (8, op_call sp_X5_isIn 3 0 11), (11, op_zret)]
set_option maxRecDepth 20000 in
theorem tok_X5_isPerson : ∀ q ∈ tab_X5_isPerson, Snd RX5 cX5_isPerson 2 1 0 (some .boolean) q.1 q.2 := by
  unfold tab_X5_isPerson
  refine tcons (ok_iload_n dX5_isPerson_0 rfl rfl) ?_
  refine tcons (ok_iconst dX5_isPerson_1 rfl rfl) ?_
  refine tcons (ok_aload_n dX5_isPerson_2 rfl rfl) ?_
  refine tcons (ok_getfield (C := RX5) (T := TX5) (n := 33) rfl in_X5 (by decide) w_994 dX5_isPerson_3 rfl) ?_
  refine tcons (ok_iconst dX5_isPerson_6 rfl rfl) ?_
  refine tcons (ok_isub dX5_isPerson_7 rfl) ?_
  refine tcons (ok_invokestatic M_X5_isIn w_1105 w_1106 w_49 w_1107 ⟨by decide, by decide, by decide +kernel⟩ (by decide) (by decide) dX5_isPerson_8 rfl) ?_
  refine tcons (ok_zreturn rfl (Or.inl rfl) dX5_isPerson_11) ?_
  exact fun _ h => nomatch h
def sp_X5_isPerson : Spc := fun av s N _ => match av with
  | [.inl (.inr (20, 0)), .inl (.inl p)] => br (inR p 0 (s.2.1 20 0 1 - 1)) N s
  | _ => False
theorem M_X5_isPerson : AMet yX5_isPerson cX5_isPerson 2 (some .boolean) 1 0 sp_X5_isPerson := by
  refine AMet.mk (own := RX5) (by decide) rfl [0, 1] rfl tok_X5_isPerson 40 ?_
  intro av s0 N X h
  unfold sp_X5_isPerson at h
  split at h
  · refine ⟨fun _ => none, ?_, fun pc P hP => nomatch hP⟩
    repeat' (first | apply And.intro | (intro q; exact absurd q (by decide)) | intro _)
    all_goals first | decide | simp_all [br]
  · exact h.elim

