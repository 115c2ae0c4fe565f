theorem allS {Q : Nat → Prop} {k : Nat} (h : ∀ c, c < k → Q c) (hk : Q k) : ∀ c, c < k + 1 → Q c := fun c hc => by
  by_cases e : c = k
  · rw [e]; exact hk
  · exact h c (by omega)
theorem exS {Q : Nat → Prop} {k : Nat} (h : ∃ c, c < k ∧ Q c) : ∃ c, c < k + 1 ∧ Q c := by
  obtain ⟨c, h1, h2⟩ := h
  exact ⟨c, by omega, h2⟩
/-- a cause that does not keep a vow from the court -/
def qtQ (s : Sg) (v b : Int32) (c : Nat) : Prop := nI c = b ∨ ¬ s.2.1 42 0 c = v ∨ s.2.1 44 0 c = 2 ∨ s.2.1 44 0 c = 3
/-- all causes of a vow are over, but perhaps one -/
def quietM (s : Sg) (v b : Int32) : Prop := ∀ c, c < ncm s → qtQ s v b c
theorem dX5_isQuiet_0 : decode cX5_isQuiet 0 = .ok (.iconst 1, 1) := by decide +kernel
theorem dX5_isQuiet_1 : decode cX5_isQuiet 1 = .ok (.istore_n 3, 1) := by decide +kernel
theorem dX5_isQuiet_2 : decode cX5_isQuiet 2 = .ok (.iconst 0, 1) := by decide +kernel
theorem dX5_isQuiet_3 : decode cX5_isQuiet 3 = .ok (.istore 4, 2) := by decide +kernel
theorem dX5_isQuiet_5 : decode cX5_isQuiet 5 = .ok (.iload 4, 2) := by decide +kernel
theorem dX5_isQuiet_7 : decode cX5_isQuiet 7 = .ok (.aload_n 0, 1) := by decide +kernel
theorem dX5_isQuiet_8 : decode cX5_isQuiet 8 = .ok (.getfield 161, 3) := by decide +kernel
theorem dX5_isQuiet_11 : decode cX5_isQuiet 11 = .ok (.if_icmp .ge 49, 3) := by decide +kernel
theorem dX5_isQuiet_14 : decode cX5_isQuiet 14 = .ok (.iload_n 3, 1) := by decide +kernel
theorem dX5_isQuiet_15 : decode cX5_isQuiet 15 = .ok (.ifCond .eq 37, 3) := by decide +kernel
theorem dX5_isQuiet_18 : decode cX5_isQuiet 18 = .ok (.iload 4, 2) := by decide +kernel
theorem dX5_isQuiet_20 : decode cX5_isQuiet 20 = .ok (.iload_n 2, 1) := by decide +kernel
theorem dX5_isQuiet_21 : decode cX5_isQuiet 21 = .ok (.if_icmp .eq 27, 3) := by decide +kernel
theorem dX5_isQuiet_24 : decode cX5_isQuiet 24 = .ok (.aload_n 0, 1) := by decide +kernel
theorem dX5_isQuiet_25 : decode cX5_isQuiet 25 = .ok (.getfield 65, 3) := by decide +kernel
theorem dX5_isQuiet_28 : decode cX5_isQuiet 28 = .ok (.iload 4, 2) := by decide +kernel
theorem dX5_isQuiet_30 : decode cX5_isQuiet 30 = .ok (.iaload, 1) := by decide +kernel
theorem dX5_isQuiet_31 : decode cX5_isQuiet 31 = .ok (.iload_n 1, 1) := by decide +kernel
theorem dX5_isQuiet_32 : decode cX5_isQuiet 32 = .ok (.if_icmp .ne 16, 3) := by decide +kernel
theorem dX5_isQuiet_35 : decode cX5_isQuiet 35 = .ok (.aload_n 0, 1) := by decide +kernel
theorem dX5_isQuiet_36 : decode cX5_isQuiet 36 = .ok (.getfield 71, 3) := by decide +kernel
theorem dX5_isQuiet_39 : decode cX5_isQuiet 39 = .ok (.iload 4, 2) := by decide +kernel
theorem dX5_isQuiet_41 : decode cX5_isQuiet 41 = .ok (.iaload, 1) := by decide +kernel
theorem dX5_isQuiet_42 : decode cX5_isQuiet 42 = .ok (.invokestatic 164, 3) := by decide +kernel
theorem dX5_isQuiet_45 : decode cX5_isQuiet 45 = .ok (.ifCond .eq 7, 3) := by decide +kernel
theorem dX5_isQuiet_48 : decode cX5_isQuiet 48 = .ok (.iconst 1, 1) := by decide +kernel
theorem dX5_isQuiet_49 : decode cX5_isQuiet 49 = .ok (.goto 4, 3) := by decide +kernel
theorem dX5_isQuiet_52 : decode cX5_isQuiet 52 = .ok (.iconst 0, 1) := by decide +kernel
theorem dX5_isQuiet_53 : decode cX5_isQuiet 53 = .ok (.istore_n 3, 1) := by decide +kernel
theorem dX5_isQuiet_54 : decode cX5_isQuiet 54 = .ok (.iinc 4 1, 3) := by decide +kernel
theorem dX5_isQuiet_57 : decode cX5_isQuiet 57 = .ok (.goto (-52), 3) := by decide +kernel
theorem dX5_isQuiet_60 : decode cX5_isQuiet 60 = .ok (.iload_n 3, 1) := by decide +kernel
theorem dX5_isQuiet_61 : decode cX5_isQuiet 61 = .ok (.ireturn, 1) := by decide +kernel
def tab_X5_isQuiet : List (Nat × Sem) := [(0, op_ic 1 1), (1, op_is 3 2), (2, op_ic 0 3), (3, op_is 4 5), (5, op_il 4 7), (7, op_al 0 8), (8, op_gf 7 21 11), (11, op_cmp (fun x y => y ≤ x) 60 14), (14, op_il 3 15), (15, op_if (fun x => x = 0) 52 18), (18, op_il 4 20), (20, op_il 2 21), (21, op_cmp (fun x y => x = y) 48 24), (24, op_al 0 25), (25, op_gf 7 22 28), (28, op_il 4 30), (30, op_iald 31), (31, op_il 1 32), (32, op_cmp (fun x y => ¬ x = y) 48 35), (35, op_al 0 36), (36, op_gf 7 24 39), (39, op_il 4 41), (41, op_iald 42), (42, op_call sp_X5_isOver 1 0 45), (45, op_if (fun x => x = 0) 52 48), (48, op_ic 1 49), (49, op_go 53), (52, op_ic 0 53), (53, op_is 3 54), (54, op_inc 4 1 57), (57, op_go 5), (60, op_il 3 61), (61, op_zret)]
set_option maxRecDepth 20000 in
theorem tok_X5_isQuiet : ∀ q ∈ tab_X5_isQuiet, Snd RX5 cX5_isQuiet 5 1 0 (some .boolean) q.1 q.2 := by
  unfold tab_X5_isQuiet
  refine tcons (ok_iconst dX5_isQuiet_0 rfl rfl) ?_
  refine tcons (ok_istore_n dX5_isQuiet_1 rfl (by decide) rfl) ?_
  refine tcons (ok_iconst dX5_isQuiet_2 rfl rfl) ?_
  refine tcons (ok_istore dX5_isQuiet_3 (by decide) rfl) ?_
  refine tcons (ok_iload dX5_isQuiet_5 rfl) ?_
  refine tcons (ok_aload_n dX5_isQuiet_7 rfl rfl) ?_
  refine tcons (ok_getfield (C := RX5) (T := TX5) (n := 33) rfl in_X5 (by decide) w_1014 dX5_isQuiet_8 rfl) ?_
  refine tcons (ok_icmp_ge dX5_isQuiet_11 rfl rfl) ?_
  refine tcons (ok_iload_n dX5_isQuiet_14 rfl rfl) ?_
  refine tcons (ok_if_eq dX5_isQuiet_15 rfl rfl) ?_
  refine tcons (ok_iload dX5_isQuiet_18 rfl) ?_
  refine tcons (ok_iload_n dX5_isQuiet_20 rfl rfl) ?_
  refine tcons (ok_icmp_eq dX5_isQuiet_21 rfl rfl) ?_
  refine tcons (ok_aload_n dX5_isQuiet_24 rfl rfl) ?_
  refine tcons (ok_getfield (C := RX5) (T := TX5) (n := 33) rfl in_X5 (by decide) w_1015 dX5_isQuiet_25 rfl) ?_
  refine tcons (ok_iload dX5_isQuiet_28 rfl) ?_
  refine tcons (ok_iaload dX5_isQuiet_30 rfl) ?_
  refine tcons (ok_iload_n dX5_isQuiet_31 rfl rfl) ?_
  refine tcons (ok_icmp_ne dX5_isQuiet_32 rfl rfl) ?_
  refine tcons (ok_aload_n dX5_isQuiet_35 rfl rfl) ?_
  refine tcons (ok_getfield (C := RX5) (T := TX5) (n := 33) rfl in_X5 (by decide) w_1017 dX5_isQuiet_36 rfl) ?_
  refine tcons (ok_iload dX5_isQuiet_39 rfl) ?_
  refine tcons (ok_iaload dX5_isQuiet_41 rfl) ?_
  refine tcons (ok_invokestatic M_X5_isOver w_1210 w_1211 w_49 w_1212 ⟨by decide, by decide, by decide +kernel⟩ (by decide) (by decide) dX5_isQuiet_42 rfl) ?_
  refine tcons (ok_if_eq dX5_isQuiet_45 rfl rfl) ?_
  refine tcons (ok_iconst dX5_isQuiet_48 rfl rfl) ?_
  refine tcons (ok_goto dX5_isQuiet_49 rfl) ?_
  refine tcons (ok_iconst dX5_isQuiet_52 rfl rfl) ?_
  refine tcons (ok_istore_n dX5_isQuiet_53 rfl (by decide) rfl) ?_
  refine tcons (ok_iinc dX5_isQuiet_54 rfl (by decide) rfl) ?_
  refine tcons (ok_goto dX5_isQuiet_57 rfl) ?_
  refine tcons (ok_iload_n dX5_isQuiet_60 rfl rfl) ?_
  refine tcons (ok_zreturn rfl (Or.inl rfl) dX5_isQuiet_61) ?_
  exact fun _ h => nomatch h
def sp_X5_isQuiet : Spc := fun av s N _ => match av with
  | [.inl (.inr (20, 0)), .inl (.inl v), .inl (.inl b)] => MI s ∧ br (quietM s v b) N s
  | _ => False
set_option maxRecDepth 20000 in
set_option maxHeartbeats 2000000 in
theorem M_X5_isQuiet : AMet yX5_isQuiet cX5_isQuiet 5 (some .boolean) 1 0 sp_X5_isQuiet := by
  refine AMet.mc (own := RX5) (by decide) rfl [0, 1, 2, 3, 4] rfl tok_X5_isQuiet 200 ?_
  intro av s0 N X h
  unfold sp_X5_isQuiet at h
  split at h
  rotate_left
  · exact h.elim
  rename_i v b
  obtain ⟨hM, h⟩ := h
  obtain ⟨-, -, ⟨n, hn, hv⟩⟩ := of_eq_true hM
  unfold quietM at h
  rw [ncm_eq hv hn] at h
  refine ⟨[(5, fun m u L st s => ∃ k x, k ≤ n ∧ m = n - k ∧ u = 0 ∧ L = [(0, .inr (20, 0)), (1, .inl v), (2, .inl b), (3, .inl x), (4, .inl (nI k))] ∧ st = [] ∧ s = s0 ∧ ((x = 1 ∧ ∀ c, c < k → qtQ s v b c) ∨ (x = 0 ∧ ∃ c, c < k ∧ ¬ qtQ s v b c)))], ?_, ac ?_ an⟩
  · repeat' (first | apply And.intro | (intro q; exact absurd q (by decide)) | intro _)
    all_goals first | decide | (exact Nat.le_of_ble_eq_true rfl) | (exact ⟨n, 5, trivial, 0, 1, Nat.zero_le _, rfl, rfl, rfl, rfl, rfl, Or.inl ⟨rfl, fun c hc => absurd hc (Nat.not_lt_zero c)⟩⟩)
  · rintro m u L st s ⟨k, x, hk, rfl, rfl, rfl, rfl, rfl, hx⟩
    by_cases hkn : k < n
    · have hle : ¬ nI n ≤ nI k := fun q => by have := (nIge (Nat.le_trans hk hn) hn (by decide)).mp q; omega
      have e1 : (nI k).toNatClampNeg = k := nI_clamp (by omega)
      have hb1 : Ib (nI k) 30 := nIb (by omega) (by decide)
      clear h hM
      rcases hx with ⟨rfl, hx⟩ | ⟨rfl, hx⟩
      all_goals repeat' (first | apply And.intro | (intro q; exact absurd q (by decide)) | (intro q; exact absurd (by rw [← hv]; exact q) hle) | intro _)
      all_goals first | decide | (exact Nat.le_of_ble_eq_true rfl) | exact hb1 |
        (exact ⟨n - (k + 1), 5, by omega, k + 1, 1, by omega, rfl, rfl, by rw [← nIs]; rfl, rfl, rfl, Or.inl ⟨rfl, allS hx (by simp_all [qtQ])⟩⟩) |
        (exact ⟨n - (k + 1), 5, by omega, k + 1, 0, by omega, rfl, rfl, by rw [← nIs]; rfl, rfl, rfl, Or.inr ⟨rfl, exS hx⟩⟩) |
        (exact ⟨n - (k + 1), 5, by omega, k + 1, 0, by omega, rfl, rfl, by rw [← nIs]; rfl, rfl, rfl, Or.inr ⟨rfl, k, by omega, by simp_all [qtQ]⟩⟩)
    · obtain rfl : k = n := by omega
      have hle : s.2.1 20 0 21 ≤ nI k := by rw [hv]; exact nI_le (Nat.le_refl _) (by omega)
      clear hM
      rcases hx with ⟨rfl, hx⟩ | ⟨rfl, hx⟩
      all_goals repeat' (first | apply And.intro | (intro q; exact absurd q (by decide)) | (intro q; exact absurd hle q) | intro _)
      all_goals first | decide | (exact Nat.le_of_ble_eq_true rfl) | (exact h.1 hx) | (exact h.2 (fun q => by obtain ⟨c, h1, h2⟩ := hx; exact h2 (q c h1)))
theorem or0 (x : Int32) : x ||| 0 = x := by simp
theorem or44 (x : Int32) : x ||| 4 ||| 4 = x ||| 4 := by rw [Int32.or_assoc]; rfl
theorem or40 (x : Int32) : x ||| 4 ||| 0 = x ||| 4 := or0 _
/-- a vow binds on a day (the model's) -/
def mbd (s : Sg) (t : Int32) (k : Nat) : Prop := ¬ t < s.2.1 36 0 k ∧ ¬ s.2.1 39 0 k = 1 ∧ (s.2.1 39 0 k = 0 ∨ t < s.2.1 40 0 k)
def mof (s : Sg) (p : Int32) (k : Nat) : Prop := s.2.1 33 0 k = p ∨ s.2.1 34 0 k = p
def hbQ (s : Sg) (i k : Nat) : Prop := (mof s (s.2.1 33 0 i) k ∨ mof s (s.2.1 34 0 i) k) ∧ mbd s (s.2.1 36 0 i) k
theorem dX5_hinderedBy_0 : decode cX5_hinderedBy 0 = .ok (.aload_n 0, 1) := by decide +kernel
theorem dX5_hinderedBy_1 : decode cX5_hinderedBy 1 = .ok (.getfield 56, 3) := by decide +kernel
theorem dX5_hinderedBy_4 : decode cX5_hinderedBy 4 = .ok (.iload_n 1, 1) := by decide +kernel
theorem dX5_hinderedBy_5 : decode cX5_hinderedBy 5 = .ok (.iaload, 1) := by decide +kernel
theorem dX5_hinderedBy_6 : decode cX5_hinderedBy 6 = .ok (.istore_n 2, 1) := by decide +kernel
theorem dX5_hinderedBy_7 : decode cX5_hinderedBy 7 = .ok (.iconst 0, 1) := by decide +kernel
theorem dX5_hinderedBy_8 : decode cX5_hinderedBy 8 = .ok (.istore_n 3, 1) := by decide +kernel
theorem dX5_hinderedBy_9 : decode cX5_hinderedBy 9 = .ok (.iload_n 3, 1) := by decide +kernel
theorem dX5_hinderedBy_10 : decode cX5_hinderedBy 10 = .ok (.iload_n 1, 1) := by decide +kernel
theorem dX5_hinderedBy_11 : decode cX5_hinderedBy 11 = .ok (.if_icmp .ge 59, 3) := by decide +kernel
theorem dX5_hinderedBy_14 : decode cX5_hinderedBy 14 = .ok (.iload_n 2, 1) := by decide +kernel
theorem dX5_hinderedBy_15 : decode cX5_hinderedBy 15 = .ok (.aload_n 0, 1) := by decide +kernel
theorem dX5_hinderedBy_16 : decode cX5_hinderedBy 16 = .ok (.iload_n 3, 1) := by decide +kernel
theorem dX5_hinderedBy_17 : decode cX5_hinderedBy 17 = .ok (.aload_n 0, 1) := by decide +kernel
theorem dX5_hinderedBy_18 : decode cX5_hinderedBy 18 = .ok (.getfield 41, 3) := by decide +kernel
theorem dX5_hinderedBy_21 : decode cX5_hinderedBy 21 = .ok (.iload_n 1, 1) := by decide +kernel
theorem dX5_hinderedBy_22 : decode cX5_hinderedBy 22 = .ok (.iaload, 1) := by decide +kernel
theorem dX5_hinderedBy_23 : decode cX5_hinderedBy 23 = .ok (.invokevirtual 148, 3) := by decide +kernel
theorem dX5_hinderedBy_26 : decode cX5_hinderedBy 26 = .ok (.ifCond .ne 17, 3) := by decide +kernel
theorem dX5_hinderedBy_29 : decode cX5_hinderedBy 29 = .ok (.aload_n 0, 1) := by decide +kernel
theorem dX5_hinderedBy_30 : decode cX5_hinderedBy 30 = .ok (.iload_n 3, 1) := by decide +kernel
theorem dX5_hinderedBy_31 : decode cX5_hinderedBy 31 = .ok (.aload_n 0, 1) := by decide +kernel
theorem dX5_hinderedBy_32 : decode cX5_hinderedBy 32 = .ok (.getfield 44, 3) := by decide +kernel
theorem dX5_hinderedBy_35 : decode cX5_hinderedBy 35 = .ok (.iload_n 1, 1) := by decide +kernel
theorem dX5_hinderedBy_36 : decode cX5_hinderedBy 36 = .ok (.iaload, 1) := by decide +kernel
theorem dX5_hinderedBy_37 : decode cX5_hinderedBy 37 = .ok (.invokevirtual 148, 3) := by decide +kernel
theorem dX5_hinderedBy_40 : decode cX5_hinderedBy 40 = .ok (.ifCond .eq 21, 3) := by decide +kernel
theorem dX5_hinderedBy_43 : decode cX5_hinderedBy 43 = .ok (.aload_n 0, 1) := by decide +kernel
theorem dX5_hinderedBy_44 : decode cX5_hinderedBy 44 = .ok (.iload_n 3, 1) := by decide +kernel
theorem dX5_hinderedBy_45 : decode cX5_hinderedBy 45 = .ok (.aload_n 0, 1) := by decide +kernel
theorem dX5_hinderedBy_46 : decode cX5_hinderedBy 46 = .ok (.getfield 50, 3) := by decide +kernel
theorem dX5_hinderedBy_49 : decode cX5_hinderedBy 49 = .ok (.iload_n 1, 1) := by decide +kernel
theorem dX5_hinderedBy_50 : decode cX5_hinderedBy 50 = .ok (.iaload, 1) := by decide +kernel
theorem dX5_hinderedBy_51 : decode cX5_hinderedBy 51 = .ok (.invokevirtual 151, 3) := by decide +kernel
theorem dX5_hinderedBy_54 : decode cX5_hinderedBy 54 = .ok (.ifCond .eq 7, 3) := by decide +kernel
theorem dX5_hinderedBy_57 : decode cX5_hinderedBy 57 = .ok (.iconst 4, 1) := by decide +kernel
theorem dX5_hinderedBy_58 : decode cX5_hinderedBy 58 = .ok (.goto 4, 3) := by decide +kernel
theorem dX5_hinderedBy_61 : decode cX5_hinderedBy 61 = .ok (.iconst 0, 1) := by decide +kernel
theorem dX5_hinderedBy_62 : decode cX5_hinderedBy 62 = .ok (.ior, 1) := by decide +kernel
theorem dX5_hinderedBy_63 : decode cX5_hinderedBy 63 = .ok (.istore_n 2, 1) := by decide +kernel
theorem dX5_hinderedBy_64 : decode cX5_hinderedBy 64 = .ok (.iinc 3 1, 3) := by decide +kernel
theorem dX5_hinderedBy_67 : decode cX5_hinderedBy 67 = .ok (.goto (-58), 3) := by decide +kernel
theorem dX5_hinderedBy_70 : decode cX5_hinderedBy 70 = .ok (.iload_n 2, 1) := by decide +kernel
theorem dX5_hinderedBy_71 : decode cX5_hinderedBy 71 = .ok (.ireturn, 1) := by decide +kernel
def tab_X5_hinderedBy : List (Nat × Sem) := [(0, op_al 0 1), (1, op_gf 7 18 4), (4, op_il 1 5), (5, op_iald 6), (6, op_is 2 7), (7, op_ic 0 8), (8, op_is 3 9), (9, op_il 3 10), (10, op_il 1 11), (11, op_cmp (fun x y => y ≤ x) 70 14), (14, op_il 2 15), (15, op_al 0 16), (16, op_il 3 17), (17, op_al 0 18), (18, op_gf 7 13 21), (21, op_il 1 22), (22, op_iald 23), (23, op_callV 7 sp_X5_isOf 3 0 26), (26, op_if (fun x => ¬ x = 0) 43 29), (29, op_al 0 30), (30, op_il 3 31), (31, op_al 0 32), (32, op_gf 7 14 35), (35, op_il 1 36), (36, op_iald 37), (37, op_callV 7 sp_X5_isOf 3 0 40), (40, op_if (fun x => x = 0) 61 43), (43, op_al 0 44), (44, op_il 3 45), (45, op_al 0 46), (46, op_gf 7 16 49), (49, op_il 1 50), (50, op_iald 51), (51, op_callV 7 sp_X5_binds 3 0 54), (54, op_if (fun x => x = 0) 61 57), (57, op_ic 4 58), (58, op_go 62), (61, op_ic 0 62), (62, op_bin (fun x y => x ||| y) 63), (63, op_is 2 64), (64, op_inc 3 1 67), (67, op_go 9), (70, op_il 2 71), (71, op_iret)]
set_option maxRecDepth 20000 in
theorem tok_X5_hinderedBy : ∀ q ∈ tab_X5_hinderedBy, Snd RX5 cX5_hinderedBy 4 1 0 (some .int) q.1 q.2 := by
  unfold tab_X5_hinderedBy
  refine tcons (ok_aload_n dX5_hinderedBy_0 rfl rfl) ?_
  refine tcons (ok_getfield (C := RX5) (T := TX5) (n := 33) rfl in_X5 (by decide) w_1011 dX5_hinderedBy_1 rfl) ?_
  refine tcons (ok_iload_n dX5_hinderedBy_4 rfl rfl) ?_
  refine tcons (ok_iaload dX5_hinderedBy_5 rfl) ?_
  refine tcons (ok_istore_n dX5_hinderedBy_6 rfl (by decide) rfl) ?_
  refine tcons (ok_iconst dX5_hinderedBy_7 rfl rfl) ?_
  refine tcons (ok_istore_n dX5_hinderedBy_8 rfl (by decide) rfl) ?_
  refine tcons (ok_iload_n dX5_hinderedBy_9 rfl rfl) ?_
  refine tcons (ok_iload_n dX5_hinderedBy_10 rfl rfl) ?_
  refine tcons (ok_icmp_ge dX5_hinderedBy_11 rfl rfl) ?_
  refine tcons (ok_iload_n dX5_hinderedBy_14 rfl rfl) ?_
  refine tcons (ok_aload_n dX5_hinderedBy_15 rfl rfl) ?_
  refine tcons (ok_iload_n dX5_hinderedBy_16 rfl rfl) ?_
  refine tcons (ok_aload_n dX5_hinderedBy_17 rfl rfl) ?_
  refine tcons (ok_getfield (C := RX5) (T := TX5) (n := 33) rfl in_X5 (by decide) w_1006 dX5_hinderedBy_18 rfl) ?_
  refine tcons (ok_iload_n dX5_hinderedBy_21 rfl rfl) ?_
  refine tcons (ok_iaload dX5_hinderedBy_22 rfl) ?_
  refine tcons (ok_invokevirtual M_X5_isOf (C := RX5) (T := TX5) (nf := 33) rfl w_1194 w_1196 w_29 w_49 w_1197 ⟨rfl, by decide, by decide, by decide +kernel⟩ (by decide) (by decide) dX5_hinderedBy_23 rfl) ?_
  refine tcons (ok_if_ne dX5_hinderedBy_26 rfl rfl) ?_
  refine tcons (ok_aload_n dX5_hinderedBy_29 rfl rfl) ?_
  refine tcons (ok_iload_n dX5_hinderedBy_30 rfl rfl) ?_
  refine tcons (ok_aload_n dX5_hinderedBy_31 rfl rfl) ?_
  refine tcons (ok_getfield (C := RX5) (T := TX5) (n := 33) rfl in_X5 (by decide) w_1007 dX5_hinderedBy_32 rfl) ?_
  refine tcons (ok_iload_n dX5_hinderedBy_35 rfl rfl) ?_
  refine tcons (ok_iaload dX5_hinderedBy_36 rfl) ?_
  refine tcons (ok_invokevirtual M_X5_isOf (C := RX5) (T := TX5) (nf := 33) rfl w_1194 w_1196 w_29 w_49 w_1197 ⟨rfl, by decide, by decide, by decide +kernel⟩ (by decide) (by decide) dX5_hinderedBy_37 rfl) ?_
  refine tcons (ok_if_eq dX5_hinderedBy_40 rfl rfl) ?_
  refine tcons (ok_aload_n dX5_hinderedBy_43 rfl rfl) ?_
  refine tcons (ok_iload_n dX5_hinderedBy_44 rfl rfl) ?_
  refine tcons (ok_aload_n dX5_hinderedBy_45 rfl rfl) ?_
  refine tcons (ok_getfield (C := RX5) (T := TX5) (n := 33) rfl in_X5 (by decide) w_1009 dX5_hinderedBy_46 rfl) ?_
  refine tcons (ok_iload_n dX5_hinderedBy_49 rfl rfl) ?_
  refine tcons (ok_iaload dX5_hinderedBy_50 rfl) ?_
  refine tcons (ok_invokevirtual M_X5_binds (C := RX5) (T := TX5) (nf := 33) rfl w_1198 w_1200 w_30 w_49 w_1201 ⟨rfl, by decide, by decide, by decide +kernel⟩ (by decide) (by decide) dX5_hinderedBy_51 rfl) ?_
  refine tcons (ok_if_eq dX5_hinderedBy_54 rfl rfl) ?_
  refine tcons (ok_iconst dX5_hinderedBy_57 rfl rfl) ?_
  refine tcons (ok_goto dX5_hinderedBy_58 rfl) ?_
  refine tcons (ok_iconst dX5_hinderedBy_61 rfl rfl) ?_
  refine tcons (ok_ior dX5_hinderedBy_62 rfl) ?_
  refine tcons (ok_istore_n dX5_hinderedBy_63 rfl (by decide) rfl) ?_
  refine tcons (ok_iinc dX5_hinderedBy_64 rfl (by decide) rfl) ?_
  refine tcons (ok_goto dX5_hinderedBy_67 rfl) ?_
  refine tcons (ok_iload_n dX5_hinderedBy_70 rfl rfl) ?_
  refine tcons (ok_ireturn rfl dX5_hinderedBy_71) ?_
  exact fun _ h => nomatch h
def sp_X5_hinderedBy : Spc := fun av s N _ => match av with
  | [.inl (.inr (20, 0)), .inl (.inl v)] => Ib v 30 ∧ ((∃ k, k < cl v ∧ hbQ s (cl v) k) → N (some (aI (s.2.1 38 0 (cl v) ||| 4))) s) ∧ ((¬ ∃ k, k < cl v ∧ hbQ s (cl v) k) → N (some (aI (s.2.1 38 0 (cl v)))) s)
  | _ => False
set_option maxRecDepth 20000 in
set_option maxHeartbeats 2000000 in
theorem M_X5_hinderedBy : AMet yX5_hinderedBy cX5_hinderedBy 4 (some .int) 1 0 sp_X5_hinderedBy := by
  refine AMet.mc (own := RX5) (by decide) rfl [0, 1, 2, 3] rfl tok_X5_hinderedBy 200 ?_
  intro av s0 N X h
  unfold sp_X5_hinderedBy at h
  split at h
  rotate_left
  · exact h.elim
  obtain ⟨hp, h1, h2⟩ := h
  obtain ⟨n, hn, rfl⟩ := Ib_nI hp (by decide)
  have ev : cl (nI n) = n := nI_clamp (by omega)
  have e9 : s0.2.1 (20 + 18) 0 (nI n).toNatClampNeg = s0.2.1 38 0 n := by rw [nI_clamp (by omega)]
  rw [ev] at h1 h2
  refine ⟨[(9, fun m u L st s => ∃ k x, k ≤ n ∧ m = n - k ∧ u = 0 ∧ L = [(0, .inr (20, 0)), (1, .inl (nI n)), (2, .inl x), (3, .inl (nI k))] ∧ st = [] ∧ s = s0 ∧ ((x = s.2.1 38 0 n ||| 4 ∧ ∃ c, c < k ∧ hbQ s n c) ∨ (x = s.2.1 38 0 n ∧ ∀ c, c < k → ¬ hbQ s n c)))], ?_, ac ?_ an⟩
  · repeat' (first | apply And.intro | (intro q; exact absurd q (by decide)) | intro _)
    all_goals first | decide | (exact Nat.le_of_ble_eq_true rfl) | (exact hp) | (exact ⟨n, 4, trivial, 0, s0.2.1 38 0 n, Nat.zero_le _, rfl, rfl, by rw [← e9]; rfl, rfl, rfl, Or.inr ⟨rfl, fun c hc => absurd hc (Nat.not_lt_zero c)⟩⟩)
  · rintro m u L st s ⟨k, x, hk, rfl, rfl, rfl, rfl, rfl, hx⟩
    by_cases hkn : k < n
    · have hle : ¬ nI n ≤ nI k := fun q => by have := (nIge (N := 30) (by omega) (by omega) (by decide)).mp q; omega
      have e1 : (nI k).toNatClampNeg = k := nI_clamp (by omega)
      have e2 : (nI n).toNatClampNeg = n := nI_clamp (by omega)
      have hb1 : Ib (nI k) 30 := nIb (by omega) (by decide)
      clear h1 h2
      rcases hx with ⟨rfl, hx⟩ | ⟨rfl, hx⟩
      all_goals repeat' (first | apply And.intro | (intro q; exact absurd q (by decide)) | (intro q; exact absurd q hle) | intro _)
      all_goals first | decide | (exact Nat.le_of_ble_eq_true rfl) | exact hb1 | exact hp |
        (exact ⟨n - (k + 1), 4, by omega, k + 1, s.2.1 38 0 n ||| 4, by omega, rfl, rfl, by simp only [← nIs, or44, or40]; rfl, rfl, rfl, Or.inl ⟨rfl, exS hx⟩⟩) |
        (exact ⟨n - (k + 1), 4, by omega, k + 1, s.2.1 38 0 n, by omega, rfl, rfl, by simp only [← nIs, or0]; rfl, rfl, rfl, Or.inr ⟨rfl, allS hx (by simp_all [hbQ, mof, mbd])⟩⟩) |
        (exact ⟨n - (k + 1), 4, by omega, k + 1, s.2.1 38 0 n ||| 4, by omega, rfl, rfl, by simp only [← nIs]; rfl, rfl, rfl, Or.inl ⟨rfl, k, by omega, by simp_all [hbQ, mof, mbd]⟩⟩)
    · obtain rfl : k = n := by omega
      have hle : nI k ≤ nI k := nI_le (Nat.le_refl _) (by omega)
      rcases hx with ⟨rfl, hx⟩ | ⟨rfl, hx⟩
      all_goals repeat' (first | apply And.intro | (intro q; exact absurd q (by decide)) | (intro q; exact absurd hle q) | intro _)
      all_goals first | decide | (exact Nat.le_of_ble_eq_true rfl) | (exact h1 hx) | (exact h2 (fun q => by obtain ⟨c, h1, h2⟩ := q; exact hx c h1 h2))

