/-- a search along a row for steps of so many: the place found, or how many are left to pass -/
def inn (f : Nat → Int32) (far : Int32) : Nat → Nat → Int32 → Sum Nat Int32
  | 0, _, left => .inr left
  | j + 1, k, left => if f k = far then (if left = 0 then .inl k else inn f far j (k + 1) (left + (-1))) else inn f far j (k + 1) left
/-- .. for steps of each number, one behind another -/
def outn (f : Nat → Int32) (n : Nat) : Nat → Int32 → Int32 → Int32
  | 0, _, _ => -1
  | j + 1, far, left => match inn f far n 0 left with
    | .inl k => nI k
    | .inr l => outn f n j (far + 1) l
def ancM (s : Sg) (p r : Int32) : Int32 := outn (mrow s (cl p)) (npm s) 23 1 r
theorem dX5_ancestor_0 : decode cX5_ancestor 0 = .ok (.aload_n 0, 1) := by decide +kernel
theorem dX5_ancestor_1 : decode cX5_ancestor 1 = .ok (.aload_n 0, 1) := by decide +kernel
theorem dX5_ancestor_2 : decode cX5_ancestor 2 = .ok (.iload_n 1, 1) := by decide +kernel
theorem dX5_ancestor_3 : decode cX5_ancestor 3 = .ok (.invokevirtual 106, 3) := by decide +kernel
theorem dX5_ancestor_6 : decode cX5_ancestor 6 = .ok (.ifCond .eq 11, 3) := by decide +kernel
theorem dX5_ancestor_9 : decode cX5_ancestor 9 = .ok (.iload_n 2, 1) := by decide +kernel
theorem dX5_ancestor_10 : decode cX5_ancestor 10 = .ok (.ifCond .lt 7, 3) := by decide +kernel
theorem dX5_ancestor_13 : decode cX5_ancestor 13 = .ok (.iconst 0, 1) := by decide +kernel
theorem dX5_ancestor_14 : decode cX5_ancestor 14 = .ok (.goto 4, 3) := by decide +kernel
theorem dX5_ancestor_17 : decode cX5_ancestor 17 = .ok (.iconst 1, 1) := by decide +kernel
theorem dX5_ancestor_18 : decode cX5_ancestor 18 = .ok (.invokevirtual 114, 3) := by decide +kernel
theorem dX5_ancestor_21 : decode cX5_ancestor 21 = .ok (.ifCond .eq 5, 3) := by decide +kernel
theorem dX5_ancestor_24 : decode cX5_ancestor 24 = .ok (.iconst 0, 1) := by decide +kernel
theorem dX5_ancestor_25 : decode cX5_ancestor 25 = .ok (.ireturn, 1) := by decide +kernel
theorem dX5_ancestor_26 : decode cX5_ancestor 26 = .ok (.iload_n 2, 1) := by decide +kernel
theorem dX5_ancestor_27 : decode cX5_ancestor 27 = .ok (.istore_n 3, 1) := by decide +kernel
theorem dX5_ancestor_28 : decode cX5_ancestor 28 = .ok (.iconst 1, 1) := by decide +kernel
theorem dX5_ancestor_29 : decode cX5_ancestor 29 = .ok (.istore 4, 2) := by decide +kernel
theorem dX5_ancestor_31 : decode cX5_ancestor 31 = .ok (.iload 4, 2) := by decide +kernel
theorem dX5_ancestor_33 : decode cX5_ancestor 33 = .ok (.bipush 24, 2) := by decide +kernel
theorem dX5_ancestor_35 : decode cX5_ancestor 35 = .ok (.if_icmp .ge 54, 3) := by decide +kernel
theorem dX5_ancestor_38 : decode cX5_ancestor 38 = .ok (.iconst 0, 1) := by decide +kernel
theorem dX5_ancestor_39 : decode cX5_ancestor 39 = .ok (.istore 5, 2) := by decide +kernel
theorem dX5_ancestor_41 : decode cX5_ancestor 41 = .ok (.iload 5, 2) := by decide +kernel
theorem dX5_ancestor_43 : decode cX5_ancestor 43 = .ok (.aload_n 0, 1) := by decide +kernel
theorem dX5_ancestor_44 : decode cX5_ancestor 44 = .ok (.getfield 96, 3) := by decide +kernel
theorem dX5_ancestor_47 : decode cX5_ancestor 47 = .ok (.if_icmp .ge 36, 3) := by decide +kernel
theorem dX5_ancestor_50 : decode cX5_ancestor 50 = .ok (.aload_n 0, 1) := by decide +kernel
theorem dX5_ancestor_51 : decode cX5_ancestor 51 = .ok (.getfield 29, 3) := by decide +kernel
theorem dX5_ancestor_54 : decode cX5_ancestor 54 = .ok (.bipush 24, 2) := by decide +kernel
theorem dX5_ancestor_56 : decode cX5_ancestor 56 = .ok (.iload_n 1, 1) := by decide +kernel
theorem dX5_ancestor_57 : decode cX5_ancestor 57 = .ok (.imul, 1) := by decide +kernel
theorem dX5_ancestor_58 : decode cX5_ancestor 58 = .ok (.iload 5, 2) := by decide +kernel
theorem dX5_ancestor_60 : decode cX5_ancestor 60 = .ok (.iadd, 1) := by decide +kernel
theorem dX5_ancestor_61 : decode cX5_ancestor 61 = .ok (.iaload, 1) := by decide +kernel
theorem dX5_ancestor_62 : decode cX5_ancestor 62 = .ok (.iload 4, 2) := by decide +kernel
theorem dX5_ancestor_64 : decode cX5_ancestor 64 = .ok (.if_icmp .ne 13, 3) := by decide +kernel
theorem dX5_ancestor_67 : decode cX5_ancestor 67 = .ok (.iload_n 3, 1) := by decide +kernel
theorem dX5_ancestor_68 : decode cX5_ancestor 68 = .ok (.ifCond .ne 6, 3) := by decide +kernel
theorem dX5_ancestor_71 : decode cX5_ancestor 71 = .ok (.iload 5, 2) := by decide +kernel
theorem dX5_ancestor_73 : decode cX5_ancestor 73 = .ok (.ireturn, 1) := by decide +kernel
theorem dX5_ancestor_74 : decode cX5_ancestor 74 = .ok (.iinc 3 (-1), 3) := by decide +kernel
theorem dX5_ancestor_77 : decode cX5_ancestor 77 = .ok (.iinc 5 1, 3) := by decide +kernel
theorem dX5_ancestor_80 : decode cX5_ancestor 80 = .ok (.goto (-39), 3) := by decide +kernel
theorem dX5_ancestor_83 : decode cX5_ancestor 83 = .ok (.iinc 4 1, 3) := by decide +kernel
theorem dX5_ancestor_86 : decode cX5_ancestor 86 = .ok (.goto (-55), 3) := by decide +kernel
theorem dX5_ancestor_89 : decode cX5_ancestor 89 = .ok (.iconst (-1), 1) := by decide +kernel
theorem dX5_ancestor_90 : decode cX5_ancestor 90 = .ok (.ireturn, 1) := by decide +kernel
def tab_X5_ancestor : List (Nat × Sem) := [(0, op_al 0 1), (1, op_al 0 2), (2, op_il 1 3), (3, op_callV 7 sp_X5_isPerson 2 0 6), (6, op_if (fun x => x = 0) 17 9), (9, op_il 2 10), (10, op_if (fun x => x < 0) 17 13), (13, op_ic 0 14), (14, op_go 18), (17, op_ic 1 18), (18, op_callV 7 sp_X5_fails 2 0 21), (21, op_if (fun x => x = 0) 26 24), (24, op_ic 0 25), (25, op_iret), (26, op_il 2 27), (27, op_is 3 28), (28, op_ic 1 29), (29, op_is 4 31), (31, op_il 4 33), (33, op_ic 24 35), (35, op_cmp (fun x y => y ≤ x) 89 38), (38, op_ic 0 39), (39, op_is 5 41), (41, op_il 5 43), (43, op_al 0 44), (44, op_gf 7 1 47), (47, op_cmp (fun x y => y ≤ x) 83 50), (50, op_al 0 51), (51, op_gf 7 8 54), (54, op_ic 24 56), (56, op_il 1 57), (57, op_bin (fun x y => x * y) 58), (58, op_il 5 60), (60, op_bin (fun x y => x + y) 61), (61, op_iald 62), (62, op_il 4 64), (64, op_cmp (fun x y => ¬ x = y) 77 67), (67, op_il 3 68), (68, op_if (fun x => ¬ x = 0) 74 71), (71, op_il 5 73), (73, op_iret), (74, op_inc 3 (-1) 77), (77, op_inc 5 1 80), (80, op_go 41), (83, op_inc 4 1 86), (86, op_go 31), (89, op_ic (-1) 90), (90, op_iret)]
set_option maxRecDepth 20000 in
theorem tok_X5_ancestor : ∀ q ∈ tab_X5_ancestor, Snd RX5 cX5_ancestor 6 2 0 (some .int) q.1 q.2 := by
  unfold tab_X5_ancestor
  refine tcons (ok_aload_n dX5_ancestor_0 rfl rfl) ?_
  refine tcons (ok_aload_n dX5_ancestor_1 rfl rfl) ?_
  refine tcons (ok_iload_n dX5_ancestor_2 rfl rfl) ?_
  refine tcons (ok_invokevirtual M_X5_isPerson (C := RX5) (T := TX5) (nf := 33) rfl w_1101 w_1103 w_19 w_49 w_1104 ⟨rfl, by decide, by decide, by decide +kernel⟩ (by decide) (by decide) dX5_ancestor_3 rfl) ?_
  refine tcons (ok_if_eq dX5_ancestor_6 rfl rfl) ?_
  refine tcons (ok_iload_n dX5_ancestor_9 rfl rfl) ?_
  refine tcons (ok_if_lt dX5_ancestor_10 rfl rfl) ?_
  refine tcons (ok_iconst dX5_ancestor_13 rfl rfl) ?_
  refine tcons (ok_goto dX5_ancestor_14 rfl) ?_
  refine tcons (ok_iconst dX5_ancestor_17 rfl rfl) ?_
  refine tcons (ok_invokevirtual M_X5_fails (C := RX5) (T := TX5) (nf := 33) rfl w_1112 w_1114 w_20 w_49 w_1115 ⟨rfl, by decide, by decide, by decide +kernel⟩ (by decide) (by decide) dX5_ancestor_18 rfl) ?_
  refine tcons (ok_if_eq dX5_ancestor_21 rfl rfl) ?_
  refine tcons (ok_iconst dX5_ancestor_24 rfl rfl) ?_
  refine tcons (ok_ireturn rfl dX5_ancestor_25) ?_
  refine tcons (ok_iload_n dX5_ancestor_26 rfl rfl) ?_
  refine tcons (ok_istore_n dX5_ancestor_27 rfl (by decide) rfl) ?_
  refine tcons (ok_iconst dX5_ancestor_28 rfl rfl) ?_
  refine tcons (ok_istore dX5_ancestor_29 (by decide) rfl) ?_
  refine tcons (ok_iload dX5_ancestor_31 rfl) ?_
  refine tcons (ok_bipush dX5_ancestor_33 rfl rfl) ?_
  refine tcons (ok_icmp_ge dX5_ancestor_35 rfl rfl) ?_
  refine tcons (ok_iconst dX5_ancestor_38 rfl rfl) ?_
  refine tcons (ok_istore dX5_ancestor_39 (by decide) rfl) ?_
  refine tcons (ok_iload dX5_ancestor_41 rfl) ?_
  refine tcons (ok_aload_n dX5_ancestor_43 rfl rfl) ?_
  refine tcons (ok_getfield (C := RX5) (T := TX5) (n := 33) rfl in_X5 (by decide) w_994 dX5_ancestor_44 rfl) ?_
  refine tcons (ok_icmp_ge dX5_ancestor_47 rfl rfl) ?_
  refine tcons (ok_aload_n dX5_ancestor_50 rfl rfl) ?_
  refine tcons (ok_getfield (C := RX5) (T := TX5) (n := 33) rfl in_X5 (by decide) w_1001 dX5_ancestor_51 rfl) ?_
  refine tcons (ok_bipush dX5_ancestor_54 rfl rfl) ?_
  refine tcons (ok_iload_n dX5_ancestor_56 rfl rfl) ?_
  refine tcons (ok_imul dX5_ancestor_57 rfl) ?_
  refine tcons (ok_iload dX5_ancestor_58 rfl) ?_
  refine tcons (ok_iadd dX5_ancestor_60 rfl) ?_
  refine tcons (ok_iaload dX5_ancestor_61 rfl) ?_
  refine tcons (ok_iload dX5_ancestor_62 rfl) ?_
  refine tcons (ok_icmp_ne dX5_ancestor_64 rfl rfl) ?_
  refine tcons (ok_iload_n dX5_ancestor_67 rfl rfl) ?_
  refine tcons (ok_if_ne dX5_ancestor_68 rfl rfl) ?_
  refine tcons (ok_iload dX5_ancestor_71 rfl) ?_
  refine tcons (ok_ireturn rfl dX5_ancestor_73) ?_
  refine tcons (ok_iinc dX5_ancestor_74 rfl (by decide) rfl) ?_
  refine tcons (ok_iinc dX5_ancestor_77 rfl (by decide) rfl) ?_
  refine tcons (ok_goto dX5_ancestor_80 rfl) ?_
  refine tcons (ok_iinc dX5_ancestor_83 rfl (by decide) rfl) ?_
  refine tcons (ok_goto dX5_ancestor_86 rfl) ?_
  refine tcons (ok_iconst dX5_ancestor_89 rfl rfl) ?_
  refine tcons (ok_ireturn rfl dX5_ancestor_90) ?_
  exact fun _ h => nomatch h
def sp_X5_ancestor : Spc := fun av s N _ => match av with
  | [.inl (.inr (20, 0)), .inl (.inl p), .inl (.inl r)] => MI s ∧ f1 (isP s p ∧ ¬ r < 0) (some (aI 0)) N s (N (some (aI (ancM s p r))) (th s 0))
  | _ => False
set_option maxRecDepth 20000 in
set_option maxHeartbeats 2000000 in
theorem M_X5_ancestor : AMet yX5_ancestor cX5_ancestor 6 (some .int) 2 0 sp_X5_ancestor := by
  refine AMet.mc (own := RX5) (by decide) rfl [0, 1, 2, 3, 4, 5] rfl tok_X5_ancestor 200 ?_
  intro av s0 N X h
  unfold sp_X5_ancestor at h
  split at h
  rotate_left
  · exact h.elim
  rename_i p r
  obtain ⟨hM, h1, h2⟩ := h
  obtain ⟨⟨n, hn, hv⟩, -, -⟩ := of_eq_true hM
  have hnp := npm_eq hv hn
  refine ⟨[(31, fun m u L st s => ∃ (a : Nat) (l : Int32), a ≤ 24 ∧ 1 ≤ a ∧ u = 0 ∧ m = (24 - a) * 100 ∧ L = [(0, .inr (20, 0)), (1, .inl p), (2, .inl r), (3, .inl l), (4, .inl (nI a))] ∧ st = [] ∧ s = th s0 0 ∧ (isP s0 p ∧ ¬ r < 0) ∧ outn (mrow s0 (cl p)) n (24 - a) (nI a) l = ancM s0 p r),
     (41, fun m u L st s => ∃ (a k : Nat) (l : Int32), a < 24 ∧ 1 ≤ a ∧ k ≤ n ∧ u = 0 ∧ m = (23 - a) * 100 + 30 + (n - k) ∧ L = [(0, .inr (20, 0)), (1, .inl p), (2, .inl r), (3, .inl l), (4, .inl (nI a)), (5, .inl (nI k))] ∧ st = [] ∧ s = th s0 0 ∧ (isP s0 p ∧ ¬ r < 0) ∧
       (match inn (mrow s0 (cl p)) (nI a) (n - k) k l with
        | .inl q => nI q
        | .inr l' => outn (mrow s0 (cl p)) n (23 - a) (nI a + 1) l') = ancM s0 p r)], ?_, ac ?_ (ac ?_ an)⟩
  · repeat' (first | apply And.intro | (intro q; exact absurd q (by decide)) | intro _)
    all_goals first | decide | (exact Nat.le_of_ble_eq_true rfl) | (exact ⟨2300, 5, trivial, 1, r, by decide, by decide, rfl, by decide, rfl, rfl, rfl, ⟨by assumption, by first | assumption | (rename_i q; simpa using q)⟩, by unfold ancM; rw [hnp]; rfl⟩) | (simp_all [f1]; done)
  · rintro m u L st s ⟨a, l, ha, ha1, rfl, rfl, rfl, rfl, rfl, hp, he⟩
    have hF := h2 hp
    by_cases hk : a < 24
    · have hle : ¬ (24 : Int32) ≤ nI a := fun q => by have := (nIge (a := a) (b := 24) (N := 30) (by omega) (by omega) (by decide)).mp q; omega
      rw [show 24 - a = (23 - a) + 1 by omega, outn] at he
      clear h1 h2 hF
      repeat' (first | apply And.intro | (intro q; exact absurd q (by decide)) | (intro q; exact absurd q hle) | intro _)
      all_goals first | (with_reducible exact rfl) | decide | (exact Nat.le_of_ble_eq_true rfl) | (exact ⟨(23 - a) * 100 + 30 + (n - 0), 6, by omega, a, 0, l, by omega, by omega, by omega, rfl, rfl, rfl, rfl, rfl, hp, by rw [Nat.sub_zero]; exact he⟩)
    · obtain rfl : a = 24 := by omega
      have hle : (24 : Int32) ≤ nI 24 := by decide
      rw [Nat.sub_self, outn] at he
      rw [← he] at hF
      repeat' (first | apply And.intro | (intro q; exact absurd q (by decide)) | (intro q; exact absurd hle q) | intro _)
      all_goals first | decide | (exact Nat.le_of_ble_eq_true rfl) | exact hF
  · rintro m u L st s ⟨a, k, l, ha, ha1, hk, rfl, rfl, rfl, rfl, rfl, hp, he⟩
    have hF := h2 hp
    obtain ⟨i, hi, rfl⟩ := MI_pn hM hp.1
    have ci : cl (nI i) = i := nI_clamp (by omega)
    rw [ci] at he
    have hv1 : (th s0 0).2.1 20 0 1 = nI n := by rw [stS_get]; exact hv
    by_cases hkn : k < n
    · have hle : ¬ nI n ≤ nI k := fun q => by have := (nIge (N := 30) (by omega) (by omega) (by decide)).mp q; omega
      have i1 : Ib (24 * nI i + nI k) 576 := by rw [row24]; exact nIb (by omega) (by decide)
      have e1 : (th s0 0).2.1 (20 + 8) 0 (24 * nI i + nI k).toNatClampNeg = mrow s0 i k := by rw [row24, nI_clamp (by omega), stS_get]; rfl
      rw [show n - k = (n - (k + 1)) + 1 by omega, inn] at he
      clear h1 h2
      by_cases hm : mrow s0 i k = nI a
      · rw [if_pos hm] at he
        by_cases hl : l = 0
        · rw [if_pos hl] at he
          dsimp only at he
          rw [← he] at hF
          repeat' (first | apply And.intro | (intro q; exact absurd q (by decide)) | (intro q; exact absurd (by rw [← hv1]; exact q) hle) | (intro q; exact absurd (by rw [← e1] at hm; exact hm) q) | (intro q; exact absurd hl q) | intro _)
          all_goals first | (with_reducible exact rfl) | (with_reducible exact i1) | (exact Nat.le_of_ble_eq_true rfl) | exact hF
        · rw [if_neg hl] at he
          clear hF
          repeat' (first | apply And.intro | (intro q; exact absurd q (by decide)) | (intro q; exact absurd (by rw [← hv1]; exact q) hle) | (intro q; exact absurd (by rw [← e1] at hm; exact hm) q) | (intro q; exact absurd hl q) | intro _)
          all_goals first | (with_reducible exact rfl) | (with_reducible exact i1) | (exact Nat.le_of_ble_eq_true rfl) | (exact absurd (by assumption) hl) |
            (exact ⟨(23 - a) * 100 + 30 + (n - (k + 1)), 6, by omega, a, k + 1, _, ha, ha1, by omega, rfl, rfl, by rw [← nIs]; rfl, rfl, rfl, hp, by rw [ci]; exact he⟩)
      · rw [if_neg hm] at he
        clear hF
        repeat' (first | apply And.intro | (intro q; exact absurd q (by decide)) | (intro q; exact absurd (by rw [← hv1]; exact q) hle) | (intro q; exact absurd q (by rw [← e1] at hm; exact fun z => z hm)) | intro _)
        all_goals first | (with_reducible exact rfl) | (with_reducible exact i1) | (exact Nat.le_of_ble_eq_true rfl) |
          (exact ⟨(23 - a) * 100 + 30 + (n - (k + 1)), 6, by omega, a, k + 1, _, ha, ha1, by omega, rfl, rfl, by rw [← nIs]; rfl, rfl, rfl, hp, by rw [ci]; exact he⟩) | (rename_i q; exact absurd (by simpa [e1] using q) hm)
    · obtain rfl : k = n := by omega
      have hle : (th s0 0).2.1 20 0 1 ≤ nI k := by rw [hv1]; exact nI_le (Nat.le_refl _) (by omega)
      rw [Nat.sub_self, inn] at he
      dsimp only at he
      clear h1 h2 hF
      repeat' (first | apply And.intro | (intro q; exact absurd q (by decide)) | (intro q; exact absurd hle q) | intro _)
      all_goals first | (with_reducible exact rfl) | decide | (exact Nat.le_of_ble_eq_true rfl) | (exact ⟨(24 - (a + 1)) * 100, 5, by omega, a + 1, l, by omega, by omega, rfl, rfl, by rw [← nIs]; rfl, rfl, rfl, hp, by rw [ci, show 24 - (a + 1) = 23 - a by omega, ← nIs]; exact he⟩)

