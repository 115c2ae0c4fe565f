/-! the model's methods with loops -/
def npm (s : Sg) : Nat := (s.2.1 20 0 1).toNatClampNeg
def nvm (s : Sg) : Nat := (s.2.1 20 0 12).toNatClampNeg
def ncm (s : Sg) : Nat := (s.2.1 20 0 21).toNatClampNeg
theorem npm_eq {s : Sg} {n : Nat} (h : s.2.1 20 0 1 = nI n) (hn : n ≤ 24) : npm s = n := by unfold npm; rw [h, nI_clamp (by omega)]
theorem nvm_eq {s : Sg} {n : Nat} (h : s.2.1 20 0 12 = nI n) (hn : n ≤ 30) : nvm s = n := by unfold nvm; rw [h, nI_clamp (by omega)]
theorem ncm_eq {s : Sg} {n : Nat} (h : s.2.1 20 0 21 = nI n) (hn : n ≤ 30) : ncm s = n := by unfold ncm; rw [h, nI_clamp (by omega)]
/-- those vows that a death ends -/
def dc (s : Sg) (p : Int32) (c : Nat) : Prop := s.2.1 39 0 c = 0 ∧ (s.2.1 33 0 c = p ∨ s.2.1 34 0 c = p)
def dieS (s : Sg) (p : Int32) (K : Nat) : Sg := (s.1, fun a b c => if (a = 39 ∧ b = 0 ∧ c < K ∧ s.2.1 39 0 c = 0 ∧ (s.2.1 33 0 c = p ∨ s.2.1 34 0 c = p)) then 3 else if (a = 40 ∧ b = 0 ∧ c < K ∧ s.2.1 39 0 c = 0 ∧ (s.2.1 33 0 c = p ∨ s.2.1 34 0 c = p)) then s.2.1 20 0 0 else s.2.1 a b c, s.2.2)
def dieN (s : Sg) (p : Int32) : Nat → Nat
  | 0 => 0
  | k + 1 => dieN s p k + (if s.2.1 39 0 k = 0 ∧ (s.2.1 33 0 k = p ∨ s.2.1 34 0 k = p) then 1 else 0)
theorem dieS_get {s : Sg} {p : Int32} {K a b c : Nat} : (dieS s p K).2.1 a b c = if (a = 39 ∧ b = 0 ∧ c < K ∧ s.2.1 39 0 c = 0 ∧ (s.2.1 33 0 c = p ∨ s.2.1 34 0 c = p)) then 3 else if (a = 40 ∧ b = 0 ∧ c < K ∧ s.2.1 39 0 c = 0 ∧ (s.2.1 33 0 c = p ∨ s.2.1 34 0 c = p)) then s.2.1 20 0 0 else s.2.1 a b c := rfl
theorem Sg_ext {s t : Sg} (h1 : s.1 = t.1) (h2 : ∀ a b c, s.2.1 a b c = t.2.1 a b c) (h3 : s.2.2 = t.2.2) : s = t := by
  obtain ⟨n, S, o⟩ := s
  obtain ⟨n', S', o'⟩ := t
  have e : S = S' := by funext a b c; exact h2 a b c
  have e1 : n = n' := h1
  have e3 : o = o' := h3
  rw [e, e1, e3]
theorem dieS_0 {s : Sg} {p : Int32} : dieS s p 0 = s := Sg_ext rfl (fun a b c => by simp [dieS_get]) rfl
theorem dieS_s {s : Sg} {p : Int32} {k : Nat} (h : s.2.1 39 0 k = 0 ∧ (s.2.1 33 0 k = p ∨ s.2.1 34 0 k = p)) : stS (stS (dieS s p k) 39 0 k 3) 40 0 k (s.2.1 20 0 0) = dieS s p (k + 1) := by
  refine Sg_ext rfl (fun a b c => ?_) rfl
  simp only [stS_get, dieS_get]
  grind (splits := 30)
theorem dieS_n {s : Sg} {p : Int32} {k : Nat} (h : ¬ (s.2.1 39 0 k = 0 ∧ (s.2.1 33 0 k = p ∨ s.2.1 34 0 k = p))) : dieS s p k = dieS s p (k + 1) := by
  refine Sg_ext rfl (fun a b c => ?_) rfl
  simp only [dieS_get]
  grind (splits := 30)
theorem dX5_die_0 : decode cX5_die 0 = .ok (.aload_n 0, 1) := by decide +kernel
theorem dX5_die_1 : decode cX5_die 1 = .ok (.aload_n 0, 1) := by decide +kernel
theorem dX5_die_2 : decode cX5_die 2 = .ok (.iload_n 1, 1) := by decide +kernel
theorem dX5_die_3 : decode cX5_die 3 = .ok (.invokevirtual 106, 3) := by decide +kernel
theorem dX5_die_6 : decode cX5_die 6 = .ok (.ifCond .ne 7, 3) := by decide +kernel
theorem dX5_die_9 : decode cX5_die 9 = .ok (.iconst 1, 1) := by decide +kernel
theorem dX5_die_10 : decode cX5_die 10 = .ok (.goto 17, 3) := by decide +kernel
theorem dX5_die_13 : decode cX5_die 13 = .ok (.aload_n 0, 1) := by decide +kernel
theorem dX5_die_14 : decode cX5_die 14 = .ok (.getfield 26, 3) := by decide +kernel
theorem dX5_die_17 : decode cX5_die 17 = .ok (.iload_n 1, 1) := by decide +kernel
theorem dX5_die_18 : decode cX5_die 18 = .ok (.baload, 1) := by decide +kernel
theorem dX5_die_19 : decode cX5_die 19 = .ok (.ifCond .eq 7, 3) := by decide +kernel
theorem dX5_die_22 : decode cX5_die 22 = .ok (.iconst 2, 1) := by decide +kernel
theorem dX5_die_23 : decode cX5_die 23 = .ok (.goto 4, 3) := by decide +kernel
theorem dX5_die_26 : decode cX5_die 26 = .ok (.iconst 0, 1) := by decide +kernel
theorem dX5_die_27 : decode cX5_die 27 = .ok (.invokevirtual 114, 3) := by decide +kernel
theorem dX5_die_30 : decode cX5_die 30 = .ok (.ifCond .eq 5, 3) := by decide +kernel
theorem dX5_die_33 : decode cX5_die 33 = .ok (.iconst 0, 1) := by decide +kernel
theorem dX5_die_34 : decode cX5_die 34 = .ok (.ireturn, 1) := by decide +kernel
theorem dX5_die_35 : decode cX5_die 35 = .ok (.aload_n 0, 1) := by decide +kernel
theorem dX5_die_36 : decode cX5_die 36 = .ok (.getfield 26, 3) := by decide +kernel
theorem dX5_die_39 : decode cX5_die 39 = .ok (.iload_n 1, 1) := by decide +kernel
theorem dX5_die_40 : decode cX5_die 40 = .ok (.iconst 1, 1) := by decide +kernel
theorem dX5_die_41 : decode cX5_die 41 = .ok (.bastore, 1) := by decide +kernel
theorem dX5_die_42 : decode cX5_die 42 = .ok (.iconst 0, 1) := by decide +kernel
theorem dX5_die_43 : decode cX5_die 43 = .ok (.istore_n 2, 1) := by decide +kernel
theorem dX5_die_44 : decode cX5_die 44 = .ok (.iconst 0, 1) := by decide +kernel
theorem dX5_die_45 : decode cX5_die 45 = .ok (.istore_n 3, 1) := by decide +kernel
theorem dX5_die_46 : decode cX5_die 46 = .ok (.iload_n 3, 1) := by decide +kernel
theorem dX5_die_47 : decode cX5_die 47 = .ok (.aload_n 0, 1) := by decide +kernel
theorem dX5_die_48 : decode cX5_die 48 = .ok (.getfield 103, 3) := by decide +kernel
theorem dX5_die_51 : decode cX5_die 51 = .ok (.if_icmp .ge 47, 3) := by decide +kernel
theorem dX5_die_54 : decode cX5_die 54 = .ok (.aload_n 0, 1) := by decide +kernel
theorem dX5_die_55 : decode cX5_die 55 = .ok (.getfield 59, 3) := by decide +kernel
theorem dX5_die_58 : decode cX5_die 58 = .ok (.iload_n 3, 1) := by decide +kernel
theorem dX5_die_59 : decode cX5_die 59 = .ok (.iaload, 1) := by decide +kernel
theorem dX5_die_60 : decode cX5_die 60 = .ok (.ifCond .ne 32, 3) := by decide +kernel
theorem dX5_die_63 : decode cX5_die 63 = .ok (.aload_n 0, 1) := by decide +kernel
theorem dX5_die_64 : decode cX5_die 64 = .ok (.getfield 41, 3) := by decide +kernel
theorem dX5_die_67 : decode cX5_die 67 = .ok (.iload_n 3, 1) := by decide +kernel
theorem dX5_die_68 : decode cX5_die 68 = .ok (.iaload, 1) := by decide +kernel
theorem dX5_die_69 : decode cX5_die 69 = .ok (.iload_n 1, 1) := by decide +kernel
theorem dX5_die_70 : decode cX5_die 70 = .ok (.if_icmp .eq 13, 3) := by decide +kernel
theorem dX5_die_73 : decode cX5_die 73 = .ok (.aload_n 0, 1) := by decide +kernel
theorem dX5_die_74 : decode cX5_die 74 = .ok (.getfield 44, 3) := by decide +kernel
theorem dX5_die_77 : decode cX5_die 77 = .ok (.iload_n 3, 1) := by decide +kernel
theorem dX5_die_78 : decode cX5_die 78 = .ok (.iaload, 1) := by decide +kernel
theorem dX5_die_79 : decode cX5_die 79 = .ok (.iload_n 1, 1) := by decide +kernel
theorem dX5_die_80 : decode cX5_die 80 = .ok (.if_icmp .ne 12, 3) := by decide +kernel
theorem dX5_die_83 : decode cX5_die 83 = .ok (.aload_n 0, 1) := by decide +kernel
theorem dX5_die_84 : decode cX5_die 84 = .ok (.iload_n 3, 1) := by decide +kernel
theorem dX5_die_85 : decode cX5_die 85 = .ok (.iconst 3, 1) := by decide +kernel
theorem dX5_die_86 : decode cX5_die 86 = .ok (.invokevirtual 120, 3) := by decide +kernel
theorem dX5_die_89 : decode cX5_die 89 = .ok (.iinc 2 1, 3) := by decide +kernel
theorem dX5_die_92 : decode cX5_die 92 = .ok (.iinc 3 1, 3) := by decide +kernel
theorem dX5_die_95 : decode cX5_die 95 = .ok (.goto (-49), 3) := by decide +kernel
theorem dX5_die_98 : decode cX5_die 98 = .ok (.iload_n 2, 1) := by decide +kernel
theorem dX5_die_99 : decode cX5_die 99 = .ok (.ireturn, 1) := by decide +kernel
def tab_X5_die : List (Nat × Sem) := [(0, op_al 0 1), (1, op_al 0 2), (2, op_il 1 3), (3, op_callV 7 sp_X5_isPerson 2 0 6), (6, op_if (fun x => ¬ x = 0) 13 9), (9, op_ic 1 10), (10, op_go 27), (13, op_al 0 14), (14, op_gf 7 7 17), (17, op_il 1 18), (18, op_bald 19), (19, op_if (fun x => x = 0) 26 22), (22, op_ic 2 23), (23, op_go 27), (26, op_ic 0 27), (27, op_callV 7 sp_X5_fails 2 0 30), (30, op_if (fun x => x = 0) 35 33), (33, op_ic 0 34), (34, op_iret), (35, op_al 0 36), (36, op_gf 7 7 39), (39, op_il 1 40), (40, op_ic 1 41), (41, op_bast 42), (42, op_ic 0 43), (43, op_is 2 44), (44, op_ic 0 45), (45, op_is 3 46), (46, op_il 3 47), (47, op_al 0 48), (48, op_gf 7 12 51), (51, op_cmp (fun x y => y ≤ x) 98 54), (54, op_al 0 55), (55, op_gf 7 19 58), (58, op_il 3 59), (59, op_iald 60), (60, op_if (fun x => ¬ x = 0) 92 63), (63, op_al 0 64), (64, op_gf 7 13 67), (67, op_il 3 68), (68, op_iald 69), (69, op_il 1 70), (70, op_cmp (fun x y => x = y) 83 73), (73, op_al 0 74), (74, op_gf 7 14 77), (77, op_il 3 78), (78, op_iald 79), (79, op_il 1 80), (80, op_cmp (fun x y => ¬ x = y) 92 83), (83, op_al 0 84), (84, op_il 3 85), (85, op_ic 3 86), (86, op_callV 7 sp_X5_ends 3 0 89), (89, op_inc 2 1 92), (92, op_inc 3 1 95), (95, op_go 46), (98, op_il 2 99), (99, op_iret)]
set_option maxRecDepth 20000 in
theorem tok_X5_die : ∀ q ∈ tab_X5_die, Snd RX5 cX5_die 4 2 0 (some .int) q.1 q.2 := by
  unfold tab_X5_die
  refine tcons (ok_aload_n dX5_die_0 rfl rfl) ?_
  refine tcons (ok_aload_n dX5_die_1 rfl rfl) ?_
  refine tcons (ok_iload_n dX5_die_2 rfl rfl) ?_
  refine tcons (ok_invokevirtual M_X5_isPerson (C := RX5) (T := TX5) (nf := 33) rfl w_1101 w_1103 w_19 w_49 w_1104 ⟨rfl, by decide, by decide, by decide +kernel⟩ (by decide) (by decide) dX5_die_3 rfl) ?_
  refine tcons (ok_if_ne dX5_die_6 rfl rfl) ?_
  refine tcons (ok_iconst dX5_die_9 rfl rfl) ?_
  refine tcons (ok_goto dX5_die_10 rfl) ?_
  refine tcons (ok_aload_n dX5_die_13 rfl rfl) ?_
  refine tcons (ok_getfield (C := RX5) (T := TX5) (n := 33) rfl in_X5 (by decide) w_1000 dX5_die_14 rfl) ?_
  refine tcons (ok_iload_n dX5_die_17 rfl rfl) ?_
  refine tcons (ok_baload dX5_die_18 rfl) ?_
  refine tcons (ok_if_eq dX5_die_19 rfl rfl) ?_
  refine tcons (ok_iconst dX5_die_22 rfl rfl) ?_
  refine tcons (ok_goto dX5_die_23 rfl) ?_
  refine tcons (ok_iconst dX5_die_26 rfl rfl) ?_
  refine tcons (ok_invokevirtual M_X5_fails (C := RX5) (T := TX5) (nf := 33) rfl w_1112 w_1114 w_20 w_49 w_1115 ⟨rfl, by decide, by decide, by decide +kernel⟩ (by decide) (by decide) dX5_die_27 rfl) ?_
  refine tcons (ok_if_eq dX5_die_30 rfl rfl) ?_
  refine tcons (ok_iconst dX5_die_33 rfl rfl) ?_
  refine tcons (ok_ireturn rfl dX5_die_34) ?_
  refine tcons (ok_aload_n dX5_die_35 rfl rfl) ?_
  refine tcons (ok_getfield (C := RX5) (T := TX5) (n := 33) rfl in_X5 (by decide) w_1000 dX5_die_36 rfl) ?_
  refine tcons (ok_iload_n dX5_die_39 rfl rfl) ?_
  refine tcons (ok_iconst dX5_die_40 rfl rfl) ?_
  refine tcons (ok_bastore dX5_die_41 rfl) ?_
  refine tcons (ok_iconst dX5_die_42 rfl rfl) ?_
  refine tcons (ok_istore_n dX5_die_43 rfl (by decide) rfl) ?_
  refine tcons (ok_iconst dX5_die_44 rfl rfl) ?_
  refine tcons (ok_istore_n dX5_die_45 rfl (by decide) rfl) ?_
  refine tcons (ok_iload_n dX5_die_46 rfl rfl) ?_
  refine tcons (ok_aload_n dX5_die_47 rfl rfl) ?_
  refine tcons (ok_getfield (C := RX5) (T := TX5) (n := 33) rfl in_X5 (by decide) w_1005 dX5_die_48 rfl) ?_
  refine tcons (ok_icmp_ge dX5_die_51 rfl rfl) ?_
  refine tcons (ok_aload_n dX5_die_54 rfl rfl) ?_
  refine tcons (ok_getfield (C := RX5) (T := TX5) (n := 33) rfl in_X5 (by decide) w_1012 dX5_die_55 rfl) ?_
  refine tcons (ok_iload_n dX5_die_58 rfl rfl) ?_
  refine tcons (ok_iaload dX5_die_59 rfl) ?_
  refine tcons (ok_if_ne dX5_die_60 rfl rfl) ?_
  refine tcons (ok_aload_n dX5_die_63 rfl rfl) ?_
  refine tcons (ok_getfield (C := RX5) (T := TX5) (n := 33) rfl in_X5 (by decide) w_1006 dX5_die_64 rfl) ?_
  refine tcons (ok_iload_n dX5_die_67 rfl rfl) ?_
  refine tcons (ok_iaload dX5_die_68 rfl) ?_
  refine tcons (ok_iload_n dX5_die_69 rfl rfl) ?_
  refine tcons (ok_icmp_eq dX5_die_70 rfl rfl) ?_
  refine tcons (ok_aload_n dX5_die_73 rfl rfl) ?_
  refine tcons (ok_getfield (C := RX5) (T := TX5) (n := 33) rfl in_X5 (by decide) w_1007 dX5_die_74 rfl) ?_
  refine tcons (ok_iload_n dX5_die_77 rfl rfl) ?_
  refine tcons (ok_iaload dX5_die_78 rfl) ?_
  refine tcons (ok_iload_n dX5_die_79 rfl rfl) ?_
  refine tcons (ok_icmp_ne dX5_die_80 rfl rfl) ?_
  refine tcons (ok_aload_n dX5_die_83 rfl rfl) ?_
  refine tcons (ok_iload_n dX5_die_84 rfl rfl) ?_
  refine tcons (ok_iconst dX5_die_85 rfl rfl) ?_
  refine tcons (ok_invokevirtual M_X5_ends (C := RX5) (T := TX5) (nf := 33) rfl w_1136 w_1138 w_21 w_49 w_1139 ⟨rfl, by decide, by decide, by decide +kernel⟩ (by decide) (by decide) dX5_die_86 rfl) ?_
  refine tcons (ok_iinc dX5_die_89 rfl (by decide) rfl) ?_
  refine tcons (ok_iinc dX5_die_92 rfl (by decide) rfl) ?_
  refine tcons (ok_goto dX5_die_95 rfl) ?_
  refine tcons (ok_iload_n dX5_die_98 rfl rfl) ?_
  refine tcons (ok_ireturn rfl dX5_die_99) ?_
  exact fun _ h => nomatch h
def sp_X5_die : Spc := fun av s N _ => match av with
  | [.inl (.inr (20, 0)), .inl (.inl p)] => MI s ∧ f2 (isP s p) (s.2.1 27 0 (cl p) = 0) (some (aI 0)) N s (N (some (aI (nI (dieN (stS (th s 0) 27 0 (cl p) 1) p (nvm s))))) (dieS (stS (th s 0) 27 0 (cl p) 1) p (nvm s)))
  | _ => False
set_option maxRecDepth 20000 in
set_option maxHeartbeats 2000000 in
theorem M_X5_die : AMet yX5_die cX5_die 4 (some .int) 2 0 sp_X5_die := by
  refine AMet.mc (own := RX5) (by decide) rfl [0, 1, 2, 3] rfl tok_X5_die 200 ?_
  intro av s0 N X h
  unfold sp_X5_die at h
  split at h
  rotate_left
  · exact h.elim
  rename_i p
  obtain ⟨hM, h1, h2, h3⟩ := h
  obtain ⟨-, ⟨n, hn, hv⟩, -⟩ := of_eq_true hM
  obtain ⟨s1, e1⟩ : ∃ z, z = stS (th s0 0) 27 0 (cl p) 1 := ⟨_, rfl⟩
  have hv1 : s1.2.1 20 0 12 = nI n := by rw [e1, stS_get, stS_get]; exact hv
  refine ⟨[(46, fun m u L st s => ∃ k, k ≤ n ∧ m = n - k ∧ u = 0 ∧ L = [(0, .inr (20, 0)), (1, .inl p), (2, .inl (nI (dieN s1 p k))), (3, .inl (nI k))] ∧ st = [] ∧ s = dieS s1 p k ∧ isP s0 p ∧ s0.2.1 27 0 (cl p) = 0)], ?_, ac ?_ an⟩
  · repeat' (first | apply And.intro | (intro q; exact absurd q (by decide)) | intro _)
    all_goals first | decide | (exact Nat.le_of_ble_eq_true rfl) | (exact Ib_of (MI_p hM (by assumption))) | (exact ⟨n, 4, trivial, 0, Nat.zero_le _, rfl, rfl, rfl, rfl, by rw [dieS_0, e1], by assumption, by assumption⟩) | (simp_all; done)
  · rintro m u L st s ⟨k, hk, rfl, rfl, rfl, rfl, rfl, hP, hD⟩
    have hvk : (dieS s1 p k).2.1 20 0 12 = nI n := by simp [dieS_get, hv1]
    have h20 : (dieS s1 p k).2.1 20 0 0 = s1.2.1 20 0 0 := by simp [dieS_get]
    have h39 : (dieS s1 p k).2.1 (20 + 19) 0 (nI k).toNatClampNeg = s1.2.1 39 0 k := by rw [nIc (Nat.le_trans hk hn) (by decide)]; simp [dieS_get]
    have h33 : (dieS s1 p k).2.1 (20 + 13) 0 (nI k).toNatClampNeg = s1.2.1 33 0 k := by rw [nIc (Nat.le_trans hk hn) (by decide)]; simp [dieS_get]
    have h34 : (dieS s1 p k).2.1 (20 + 14) 0 (nI k).toNatClampNeg = s1.2.1 34 0 k := by rw [nIc (Nat.le_trans hk hn) (by decide)]; simp [dieS_get]
    have hle : nI n ≤ nI k ↔ n ≤ k := nIge (Nat.le_trans hk hn) hn (by decide)
    have hck : cl (nI k) = k := nIc (Nat.le_trans hk hn) (by decide)
    have hout : n ≤ k → N (some (aI (nI (dieN s1 p k)))) (dieS s1 p k) := fun q => by
      obtain rfl : k = n := by omega
      have := h3 hP hD
      rw [← e1, nvm_eq hv hn] at this
      exact this
    clear e1
    repeat' (first | apply And.intro | (intro q; exact absurd q (by decide)) | intro _)
    all_goals try simp only [hvk, h39, h33, h34, hle, Nat.not_le, Classical.not_not] at *
    all_goals first | decide | (exact Nat.le_of_ble_eq_true rfl) | (exact hout (by assumption)) | (exact Ib_of (nI_vp (by omega) (by decide))) |
      (exact ⟨n - (k + 1), 4, by omega, k + 1, by omega, rfl, rfl, by simp [nIs, dieN, *], rfl, dieS_n (by simp [*]), hP, hD⟩) |
      (exact ⟨n - (k + 1), 4, by omega, k + 1, by omega, rfl, rfl, by simp [nIs, dieN, *], rfl, by rw [hck, h20]; exact dieS_s (by simp [*]), hP, hD⟩)

