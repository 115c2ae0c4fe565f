def bbQ (s : Sg) (p t : Int32) (k : Nat) : Prop := mof s p k ∧ mbd s t k
/-- the lowest of those from a on, below n, or -1 -/
def lowest (Q : Nat → Prop) (a n : Nat) (x : Int32) : Prop := (x = -1 ∧ ∀ c, a ≤ c → c < n → ¬ Q c) ∨ ∃ v, a ≤ v ∧ v < n ∧ x = nI v ∧ Q v ∧ ∀ c, a ≤ c → c < v → ¬ Q c
theorem low_y {Q : Nat → Prop} {a n : Nat} (h : a < n) (hq : Q a) : lowest Q a n (nI a) := Or.inr ⟨a, Nat.le_refl _, h, rfl, hq, fun c h1 h2 => by omega⟩
theorem low_n {Q : Nat → Prop} {a n : Nat} {x : Int32} (hq : ¬ Q a) (h : lowest Q (a + 1) n x) : lowest Q a n x := by
  rcases h with ⟨h1, h2⟩ | ⟨v, h1, h2, h3, h4, h5⟩
  · exact Or.inl ⟨h1, fun c h3 h4 => by
      by_cases e : c = a
      · rw [e]; exact hq
      · exact h2 c (by omega) h4⟩
  · exact Or.inr ⟨v, by omega, h2, h3, h4, fun c h6 h7 => by
      by_cases e : c = a
      · rw [e]; exact hq
      · exact h5 c (by omega) h7⟩
theorem nIm1 (k : Nat) : nI (k + 1) - 1 = nI k := nI_pred k
theorem nIm2 (k : Nat) : nI k + (-1) = nI k - 1 := by
  rw [Int32.sub_eq_add_neg]
theorem dX5_boundBy_0 : decode cX5_boundBy 0 = .ok (.iconst (-1), 1) := by decide +kernel
theorem dX5_boundBy_1 : decode cX5_boundBy 1 = .ok (.istore_n 3, 1) := by decide +kernel
theorem dX5_boundBy_2 : decode cX5_boundBy 2 = .ok (.aload_n 0, 1) := by decide +kernel
theorem dX5_boundBy_3 : decode cX5_boundBy 3 = .ok (.getfield 103, 3) := by decide +kernel
theorem dX5_boundBy_6 : decode cX5_boundBy 6 = .ok (.iconst 1, 1) := by decide +kernel
theorem dX5_boundBy_7 : decode cX5_boundBy 7 = .ok (.isub, 1) := by decide +kernel
theorem dX5_boundBy_8 : decode cX5_boundBy 8 = .ok (.istore 4, 2) := by decide +kernel
theorem dX5_boundBy_10 : decode cX5_boundBy 10 = .ok (.iload 4, 2) := by decide +kernel
theorem dX5_boundBy_12 : decode cX5_boundBy 12 = .ok (.ifCond .lt 36, 3) := by decide +kernel
theorem dX5_boundBy_15 : decode cX5_boundBy 15 = .ok (.aload_n 0, 1) := by decide +kernel
theorem dX5_boundBy_16 : decode cX5_boundBy 16 = .ok (.iload 4, 2) := by decide +kernel
theorem dX5_boundBy_18 : decode cX5_boundBy 18 = .ok (.iload_n 1, 1) := by decide +kernel
theorem dX5_boundBy_19 : decode cX5_boundBy 19 = .ok (.invokevirtual 148, 3) := by decide +kernel
theorem dX5_boundBy_22 : decode cX5_boundBy 22 = .ok (.ifCond .eq 18, 3) := by decide +kernel
theorem dX5_boundBy_25 : decode cX5_boundBy 25 = .ok (.aload_n 0, 1) := by decide +kernel
theorem dX5_boundBy_26 : decode cX5_boundBy 26 = .ok (.iload 4, 2) := by decide +kernel
theorem dX5_boundBy_28 : decode cX5_boundBy 28 = .ok (.iload_n 2, 1) := by decide +kernel
theorem dX5_boundBy_29 : decode cX5_boundBy 29 = .ok (.invokevirtual 151, 3) := by decide +kernel
theorem dX5_boundBy_32 : decode cX5_boundBy 32 = .ok (.ifCond .eq 8, 3) := by decide +kernel
theorem dX5_boundBy_35 : decode cX5_boundBy 35 = .ok (.iload 4, 2) := by decide +kernel
theorem dX5_boundBy_37 : decode cX5_boundBy 37 = .ok (.goto 4, 3) := by decide +kernel
theorem dX5_boundBy_40 : decode cX5_boundBy 40 = .ok (.iload_n 3, 1) := by decide +kernel
theorem dX5_boundBy_41 : decode cX5_boundBy 41 = .ok (.istore_n 3, 1) := by decide +kernel
theorem dX5_boundBy_42 : decode cX5_boundBy 42 = .ok (.iinc 4 (-1), 3) := by decide +kernel
theorem dX5_boundBy_45 : decode cX5_boundBy 45 = .ok (.goto (-35), 3) := by decide +kernel
theorem dX5_boundBy_48 : decode cX5_boundBy 48 = .ok (.iload_n 3, 1) := by decide +kernel
theorem dX5_boundBy_49 : decode cX5_boundBy 49 = .ok (.ireturn, 1) := by decide +kernel
def tab_X5_boundBy : List (Nat × Sem) := [(0, op_ic (-1) 1), (1, op_is 3 2), (2, op_al 0 3), (3, op_gf 7 12 6), (6, op_ic 1 7), (7, op_bin (fun x y => x - y) 8), (8, op_is 4 10), (10, op_il 4 12), (12, op_if (fun x => x < 0) 48 15), (15, op_al 0 16), (16, op_il 4 18), (18, op_il 1 19), (19, op_callV 7 sp_X5_isOf 3 0 22), (22, op_if (fun x => x = 0) 40 25), (25, op_al 0 26), (26, op_il 4 28), (28, op_il 2 29), (29, op_callV 7 sp_X5_binds 3 0 32), (32, op_if (fun x => x = 0) 40 35), (35, op_il 4 37), (37, op_go 41), (40, op_il 3 41), (41, op_is 3 42), (42, op_inc 4 (-1) 45), (45, op_go 10), (48, op_il 3 49), (49, op_iret)]
set_option maxRecDepth 20000 in
theorem tok_X5_boundBy : ∀ q ∈ tab_X5_boundBy, Snd RX5 cX5_boundBy 5 1 0 (some .int) q.1 q.2 := by
  unfold tab_X5_boundBy
  refine tcons (ok_iconst dX5_boundBy_0 rfl rfl) ?_
  refine tcons (ok_istore_n dX5_boundBy_1 rfl (by decide) rfl) ?_
  refine tcons (ok_aload_n dX5_boundBy_2 rfl rfl) ?_
  refine tcons (ok_getfield (C := RX5) (T := TX5) (n := 33) rfl in_X5 (by decide) w_1005 dX5_boundBy_3 rfl) ?_
  refine tcons (ok_iconst dX5_boundBy_6 rfl rfl) ?_
  refine tcons (ok_isub dX5_boundBy_7 rfl) ?_
  refine tcons (ok_istore dX5_boundBy_8 (by decide) rfl) ?_
  refine tcons (ok_iload dX5_boundBy_10 rfl) ?_
  refine tcons (ok_if_lt dX5_boundBy_12 rfl rfl) ?_
  refine tcons (ok_aload_n dX5_boundBy_15 rfl rfl) ?_
  refine tcons (ok_iload dX5_boundBy_16 rfl) ?_
  refine tcons (ok_iload_n dX5_boundBy_18 rfl rfl) ?_
  refine tcons (ok_invokevirtual M_X5_isOf (C := RX5) (T := TX5) (nf := 33) rfl w_1194 w_1196 w_29 w_49 w_1197 ⟨rfl, by decide, by decide, by decide +kernel⟩ (by decide) (by decide) dX5_boundBy_19 rfl) ?_
  refine tcons (ok_if_eq dX5_boundBy_22 rfl rfl) ?_
  refine tcons (ok_aload_n dX5_boundBy_25 rfl rfl) ?_
  refine tcons (ok_iload dX5_boundBy_26 rfl) ?_
  refine tcons (ok_iload_n dX5_boundBy_28 rfl rfl) ?_
  refine tcons (ok_invokevirtual M_X5_binds (C := RX5) (T := TX5) (nf := 33) rfl w_1198 w_1200 w_30 w_49 w_1201 ⟨rfl, by decide, by decide, by decide +kernel⟩ (by decide) (by decide) dX5_boundBy_29 rfl) ?_
  refine tcons (ok_if_eq dX5_boundBy_32 rfl rfl) ?_
  refine tcons (ok_iload dX5_boundBy_35 rfl) ?_
  refine tcons (ok_goto dX5_boundBy_37 rfl) ?_
  refine tcons (ok_iload_n dX5_boundBy_40 rfl rfl) ?_
  refine tcons (ok_istore_n dX5_boundBy_41 rfl (by decide) rfl) ?_
  refine tcons (ok_iinc dX5_boundBy_42 rfl (by decide) rfl) ?_
  refine tcons (ok_goto dX5_boundBy_45 rfl) ?_
  refine tcons (ok_iload_n dX5_boundBy_48 rfl rfl) ?_
  refine tcons (ok_ireturn rfl dX5_boundBy_49) ?_
  exact fun _ h => nomatch h
def sp_X5_boundBy : Spc := fun av s N _ => match av with
  | [.inl (.inr (20, 0)), .inl (.inl p), .inl (.inl t)] => MI s ∧ ∀ x, lowest (bbQ s p t) 0 (nvm s) x → N (some (aI x)) s
  | _ => False
set_option maxRecDepth 20000 in
set_option maxHeartbeats 2000000 in
theorem M_X5_boundBy : AMet yX5_boundBy cX5_boundBy 5 (some .int) 1 0 sp_X5_boundBy := by
  refine AMet.mc (own := RX5) (by decide) rfl [0, 1, 2, 3, 4] rfl tok_X5_boundBy 200 ?_
  intro av s0 N X h
  unfold sp_X5_boundBy at h
  split at h
  rotate_left
  · exact h.elim
  rename_i p t
  obtain ⟨hM, h⟩ := h
  obtain ⟨-, ⟨n, hn, hv⟩, -⟩ := of_eq_true hM
  rw [nvm_eq hv hn] at h
  refine ⟨[(10, fun m u L st s => ∃ k x, k ≤ n ∧ m = k ∧ u = 0 ∧ L = [(0, .inr (20, 0)), (1, .inl p), (2, .inl t), (3, .inl x), (4, .inl (nI k - 1))] ∧ st = [] ∧ s = s0 ∧ lowest (bbQ s p t) k n x)], ?_, ac ?_ an⟩
  · repeat' (first | apply And.intro | (intro q; exact absurd q (by decide)) | intro _)
    all_goals first | decide | (exact Nat.le_of_ble_eq_true rfl) | (exact ⟨n, 5, trivial, n, -1, Nat.le_refl _, rfl, rfl, by rw [← hv]; rfl, rfl, rfl, Or.inl ⟨rfl, fun c h1 h2 => by omega⟩⟩)
  · rintro k u L st s ⟨_, x, hk, rfl, rfl, rfl, rfl, rfl, hx⟩
    cases k with
    | succ k =>
      rw [nIm1]
      have hle : ¬ nI k < 0 := nI_pos (by omega)
      have e1 : (nI k).toNatClampNeg = k := nI_clamp (by omega)
      have hb1 : Ib (nI k) 30 := nIb (by omega) (by decide)
      clear h hM
      repeat' (first | apply And.intro | (intro q; exact absurd q (by decide)) | (intro q; exact absurd q hle) | intro _)
      all_goals first | decide | (exact Nat.le_of_ble_eq_true rfl) | exact hb1 |
        (exact ⟨k, 5, by omega, k, nI k, by omega, rfl, rfl, by rw [← nIm2]; rfl, rfl, rfl, low_y (by omega) (by simp_all [bbQ, mof, mbd])⟩) |
        (exact ⟨k, 5, by omega, k, x, by omega, rfl, rfl, by rw [← nIm2]; rfl, rfl, rfl, low_n (by simp_all [bbQ, mof, mbd]) hx⟩)
    | zero =>
      have hle : nI 0 - 1 < 0 := by decide
      repeat' (first | apply And.intro | (intro q; exact absurd q (by decide)) | (intro q; exact absurd hle q) | intro _)
      all_goals first | decide | (exact Nat.le_of_ble_eq_true rfl) | (exact h x hx)
def prvR (d : Int32) (w : Nat → Int32) : Nat → Int32
  | 0 => 0
  | g + 1 => prvR d w g ||| (if (d >>> (nI g &&& 31)) &&& 1 = 1 then (if w g < 6 then 0 else (1 : Int32) <<< (nI g &&& 31)) else 0)
def mwt (s : Sg) (c : Nat) : Nat → Int32 := fun g => s.2.1 46 0 (7 * c + g)
theorem dX5_proven_0 : decode cX5_proven 0 = .ok (.iconst 0, 1) := by decide +kernel
theorem dX5_proven_1 : decode cX5_proven 1 = .ok (.istore_n 2, 1) := by decide +kernel
theorem dX5_proven_2 : decode cX5_proven 2 = .ok (.iconst 0, 1) := by decide +kernel
theorem dX5_proven_3 : decode cX5_proven 3 = .ok (.istore_n 3, 1) := by decide +kernel
theorem dX5_proven_4 : decode cX5_proven 4 = .ok (.iload_n 3, 1) := by decide +kernel
theorem dX5_proven_5 : decode cX5_proven 5 = .ok (.bipush 7, 2) := by decide +kernel
theorem dX5_proven_7 : decode cX5_proven 7 = .ok (.if_icmp .ge 48, 3) := by decide +kernel
theorem dX5_proven_10 : decode cX5_proven 10 = .ok (.iload_n 2, 1) := by decide +kernel
theorem dX5_proven_11 : decode cX5_proven 11 = .ok (.aload_n 0, 1) := by decide +kernel
theorem dX5_proven_12 : decode cX5_proven 12 = .ok (.getfield 68, 3) := by decide +kernel
theorem dX5_proven_15 : decode cX5_proven 15 = .ok (.iload_n 1, 1) := by decide +kernel
theorem dX5_proven_16 : decode cX5_proven 16 = .ok (.iaload, 1) := by decide +kernel
theorem dX5_proven_17 : decode cX5_proven 17 = .ok (.iload_n 3, 1) := by decide +kernel
theorem dX5_proven_18 : decode cX5_proven 18 = .ok (.invokestatic 182, 3) := by decide +kernel
theorem dX5_proven_21 : decode cX5_proven 21 = .ok (.ifCond .eq 25, 3) := by decide +kernel
theorem dX5_proven_24 : decode cX5_proven 24 = .ok (.aload_n 0, 1) := by decide +kernel
theorem dX5_proven_25 : decode cX5_proven 25 = .ok (.getfield 77, 3) := by decide +kernel
theorem dX5_proven_28 : decode cX5_proven 28 = .ok (.bipush 7, 2) := by decide +kernel
theorem dX5_proven_30 : decode cX5_proven 30 = .ok (.iload_n 1, 1) := by decide +kernel
theorem dX5_proven_31 : decode cX5_proven 31 = .ok (.imul, 1) := by decide +kernel
theorem dX5_proven_32 : decode cX5_proven 32 = .ok (.iload_n 3, 1) := by decide +kernel
theorem dX5_proven_33 : decode cX5_proven 33 = .ok (.iadd, 1) := by decide +kernel
theorem dX5_proven_34 : decode cX5_proven 34 = .ok (.iaload, 1) := by decide +kernel
theorem dX5_proven_35 : decode cX5_proven 35 = .ok (.bipush 6, 2) := by decide +kernel
theorem dX5_proven_37 : decode cX5_proven 37 = .ok (.if_icmp .lt 9, 3) := by decide +kernel
theorem dX5_proven_40 : decode cX5_proven 40 = .ok (.iconst 1, 1) := by decide +kernel
theorem dX5_proven_41 : decode cX5_proven 41 = .ok (.iload_n 3, 1) := by decide +kernel
theorem dX5_proven_42 : decode cX5_proven 42 = .ok (.ishl, 1) := by decide +kernel
theorem dX5_proven_43 : decode cX5_proven 43 = .ok (.goto 4, 3) := by decide +kernel
theorem dX5_proven_46 : decode cX5_proven 46 = .ok (.iconst 0, 1) := by decide +kernel
theorem dX5_proven_47 : decode cX5_proven 47 = .ok (.ior, 1) := by decide +kernel
theorem dX5_proven_48 : decode cX5_proven 48 = .ok (.istore_n 2, 1) := by decide +kernel
theorem dX5_proven_49 : decode cX5_proven 49 = .ok (.iinc 3 1, 3) := by decide +kernel
theorem dX5_proven_52 : decode cX5_proven 52 = .ok (.goto (-48), 3) := by decide +kernel
theorem dX5_proven_55 : decode cX5_proven 55 = .ok (.iload_n 2, 1) := by decide +kernel
theorem dX5_proven_56 : decode cX5_proven 56 = .ok (.ireturn, 1) := by decide +kernel
def tab_X5_proven : List (Nat × Sem) := [(0, op_ic 0 1), (1, op_is 2 2), (2, op_ic 0 3), (3, op_is 3 4), (4, op_il 3 5), (5, op_ic 7 7), (7, op_cmp (fun x y => y ≤ x) 55 10), (10, op_il 2 11), (11, op_al 0 12), (12, op_gf 7 23 15), (15, op_il 1 16), (16, op_iald 17), (17, op_il 3 18), (18, op_call sp_X5_hasGround 2 0 21), (21, op_if (fun x => x = 0) 46 24), (24, op_al 0 25), (25, op_gf 7 26 28), (28, op_ic 7 30), (30, op_il 1 31), (31, op_bin (fun x y => x * y) 32), (32, op_il 3 33), (33, op_bin (fun x y => x + y) 34), (34, op_iald 35), (35, op_ic 6 37), (37, op_cmp (fun x y => x < y) 46 40), (40, op_ic 1 41), (41, op_il 3 42), (42, op_bin (fun x y => x <<< (y &&& 31)) 43), (43, op_go 47), (46, op_ic 0 47), (47, op_bin (fun x y => x ||| y) 48), (48, op_is 2 49), (49, op_inc 3 1 52), (52, op_go 4), (55, op_il 2 56), (56, op_iret)]
set_option maxRecDepth 20000 in
theorem tok_X5_proven : ∀ q ∈ tab_X5_proven, Snd RX5 cX5_proven 4 1 0 (some .int) q.1 q.2 := by
  unfold tab_X5_proven
  refine tcons (ok_iconst dX5_proven_0 rfl rfl) ?_
  refine tcons (ok_istore_n dX5_proven_1 rfl (by decide) rfl) ?_
  refine tcons (ok_iconst dX5_proven_2 rfl rfl) ?_
  refine tcons (ok_istore_n dX5_proven_3 rfl (by decide) rfl) ?_
  refine tcons (ok_iload_n dX5_proven_4 rfl rfl) ?_
  refine tcons (ok_bipush dX5_proven_5 rfl rfl) ?_
  refine tcons (ok_icmp_ge dX5_proven_7 rfl rfl) ?_
  refine tcons (ok_iload_n dX5_proven_10 rfl rfl) ?_
  refine tcons (ok_aload_n dX5_proven_11 rfl rfl) ?_
  refine tcons (ok_getfield (C := RX5) (T := TX5) (n := 33) rfl in_X5 (by decide) w_1016 dX5_proven_12 rfl) ?_
  refine tcons (ok_iload_n dX5_proven_15 rfl rfl) ?_
  refine tcons (ok_iaload dX5_proven_16 rfl) ?_
  refine tcons (ok_iload_n dX5_proven_17 rfl rfl) ?_
  refine tcons (ok_invokestatic M_X5_hasGround w_1244 w_1245 w_49 w_1246 ⟨by decide, by decide, by decide +kernel⟩ (by decide) (by decide) dX5_proven_18 rfl) ?_
  refine tcons (ok_if_eq dX5_proven_21 rfl rfl) ?_
  refine tcons (ok_aload_n dX5_proven_24 rfl rfl) ?_
  refine tcons (ok_getfield (C := RX5) (T := TX5) (n := 33) rfl in_X5 (by decide) w_1019 dX5_proven_25 rfl) ?_
  refine tcons (ok_bipush dX5_proven_28 rfl rfl) ?_
  refine tcons (ok_iload_n dX5_proven_30 rfl rfl) ?_
  refine tcons (ok_imul dX5_proven_31 rfl) ?_
  refine tcons (ok_iload_n dX5_proven_32 rfl rfl) ?_
  refine tcons (ok_iadd dX5_proven_33 rfl) ?_
  refine tcons (ok_iaload dX5_proven_34 rfl) ?_
  refine tcons (ok_bipush dX5_proven_35 rfl rfl) ?_
  refine tcons (ok_icmp_lt dX5_proven_37 rfl rfl) ?_
  refine tcons (ok_iconst dX5_proven_40 rfl rfl) ?_
  refine tcons (ok_iload_n dX5_proven_41 rfl rfl) ?_
  refine tcons (ok_ishl dX5_proven_42 rfl) ?_
  refine tcons (ok_goto dX5_proven_43 rfl) ?_
  refine tcons (ok_iconst dX5_proven_46 rfl rfl) ?_
  refine tcons (ok_ior dX5_proven_47 rfl) ?_
  refine tcons (ok_istore_n dX5_proven_48 rfl (by decide) rfl) ?_
  refine tcons (ok_iinc dX5_proven_49 rfl (by decide) rfl) ?_
  refine tcons (ok_goto dX5_proven_52 rfl) ?_
  refine tcons (ok_iload_n dX5_proven_55 rfl rfl) ?_
  refine tcons (ok_ireturn rfl dX5_proven_56) ?_
  exact fun _ h => nomatch h
def sp_X5_proven : Spc := fun av s N _ => match av with
  | [.inl (.inr (20, 0)), .inl (.inl c)] => Ib c 30 ∧ N (some (aI (prvR (s.2.1 43 0 (cl c)) (mwt s (cl c)) 7))) s
  | _ => False
theorem row7 (i k : Nat) : (7 : Int32) * nI i + nI k = nI (7 * i + k) := by rw [show (7 : Int32) = nI 7 from rfl, nIm, nI_add]
set_option maxRecDepth 20000 in
set_option maxHeartbeats 2000000 in
theorem M_X5_proven : AMet yX5_proven cX5_proven 4 (some .int) 1 0 sp_X5_proven := by
  refine AMet.mc (own := RX5) (by decide) rfl [0, 1, 2, 3] rfl tok_X5_proven 200 ?_
  intro av s0 N X h
  unfold sp_X5_proven at h
  split at h
  rotate_left
  · exact h.elim
  obtain ⟨hp, h⟩ := h
  obtain ⟨i, hi, rfl⟩ := Ib_nI hp (by decide)
  have ev : cl (nI i) = i := nI_clamp (by omega)
  rw [ev] at h
  obtain ⟨d, hd⟩ : ∃ z, z = s0.2.1 43 0 i := ⟨_, rfl⟩
  obtain ⟨w, hw⟩ : ∃ z, z = mwt s0 i := ⟨_, rfl⟩
  rw [← hd, ← hw] at h
  refine ⟨[(4, fun m u L st s => ∃ k, k ≤ 7 ∧ m = 7 - k ∧ u = 0 ∧ L = [(0, .inr (20, 0)), (1, .inl (nI i)), (2, .inl (prvR d w k)), (3, .inl (nI k))] ∧ st = [] ∧ s = s0)], ?_, ac ?_ an⟩
  · repeat' (first | apply And.intro | (intro q; exact absurd q (by decide)) | intro _)
    all_goals first | decide | (exact Nat.le_of_ble_eq_true rfl) | (exact ⟨7, 4, trivial, 0, by omega, rfl, rfl, rfl, rfl, rfl⟩)
  · rintro m u L st s ⟨k, hk, rfl, rfl, rfl, rfl, rfl⟩
    by_cases hkn : k < 7
    · have hle : ¬ (7 : Int32) ≤ nI k := fun q => by have := (nIge (a := k) (b := 7) (N := 30) (by omega) (by omega) (by decide)).mp q; omega
      have hb1 : Ib ((7 : Int32) * nI i + nI k) 210 := by rw [row7]; exact nIb (by omega) (by decide)
      have e1 : s.2.1 (20 + 26) 0 ((7 : Int32) * nI i + nI k).toNatClampNeg = w k := by rw [row7, nI_clamp (by omega), hw]; rfl
      have e2 : s.2.1 (20 + 23) 0 (nI i).toNatClampNeg = d := by rw [nI_clamp (by omega), hd]
      clear h hd hw
      repeat' (first | apply And.intro | (intro q; exact absurd q (by decide)) | (intro q; exact absurd q hle) | intro _)
      all_goals first | decide | (exact Nat.le_of_ble_eq_true rfl) | exact hb1 | exact hp |
        (exact ⟨7 - (k + 1), 4, by omega, k + 1, by omega, rfl, rfl, by simp_all [-Int32.not_le, -Int32.not_lt, prvR, nIs], rfl, rfl⟩)
    · obtain rfl : k = 7 := by omega
      have hle : (7 : Int32) ≤ nI 7 := by decide
      repeat' (first | apply And.intro | (intro q; exact absurd q (by decide)) | (intro q; exact absurd hle q) | intro _)
      all_goals first | decide | (exact Nat.le_of_ble_eq_true rfl) | exact h
/-- a stretch of a row, all of one value -/
def stR (s : Sg) (t b n : Nat) (v : Int32) : Sg := (s.1, fun a i c => if a = t ∧ i = 0 ∧ b ≤ c ∧ c < b + n then v else s.2.1 a i c, s.2.2)
theorem stR_get {s : Sg} {t b n a i c : Nat} {v : Int32} : (stR s t b n v).2.1 a i c = if a = t ∧ i = 0 ∧ b ≤ c ∧ c < b + n then v else s.2.1 a i c := rfl
theorem stR_0 {s : Sg} {t b : Nat} {v : Int32} : stR s t b 0 v = s := Sg_ext rfl (fun a i c => by rw [stR_get, if_neg (by omega)]) rfl
theorem stR_s {s : Sg} {t b n : Nat} {v : Int32} : stS (stR s t b n v) t 0 (b + n) v = stR s t b (n + 1) v := by
  refine Sg_ext rfl (fun a i c => ?_) rfl
  rw [stS_get, stR_get, stR_get]
  by_cases e : a = t ∧ i = 0
  · obtain ⟨rfl, rfl⟩ := e
    by_cases e2 : c = b + n
    · rw [if_pos ⟨rfl, rfl, e2⟩, if_pos ⟨rfl, rfl, by omega, by omega⟩]
    · rw [if_neg (by omega)]
      by_cases e3 : b ≤ c ∧ c < b + n
      · rw [if_pos ⟨rfl, rfl, e3⟩, if_pos ⟨rfl, rfl, by omega, by omega⟩]
      · rw [if_neg (by omega), if_neg (by omega)]
  · rw [if_neg (by omega), if_neg (by omega), if_neg (by omega)]
theorem dX5_opens_0 : decode cX5_opens 0 = .ok (.aload_n 0, 1) := by decide +kernel
theorem dX5_opens_1 : decode cX5_opens 1 = .ok (.getfield 71, 3) := by decide +kernel
theorem dX5_opens_4 : decode cX5_opens 4 = .ok (.iload_n 1, 1) := by decide +kernel
theorem dX5_opens_5 : decode cX5_opens 5 = .ok (.iconst 0, 1) := by decide +kernel
theorem dX5_opens_6 : decode cX5_opens 6 = .ok (.iastore, 1) := by decide +kernel
theorem dX5_opens_7 : decode cX5_opens 7 = .ok (.aload_n 0, 1) := by decide +kernel
theorem dX5_opens_8 : decode cX5_opens 8 = .ok (.getfield 74, 3) := by decide +kernel
theorem dX5_opens_11 : decode cX5_opens 11 = .ok (.iload_n 1, 1) := by decide +kernel
theorem dX5_opens_12 : decode cX5_opens 12 = .ok (.iload_n 2, 1) := by decide +kernel
theorem dX5_opens_13 : decode cX5_opens 13 = .ok (.iastore, 1) := by decide +kernel
theorem dX5_opens_14 : decode cX5_opens 14 = .ok (.aload_n 0, 1) := by decide +kernel
theorem dX5_opens_15 : decode cX5_opens 15 = .ok (.getfield 80, 3) := by decide +kernel
theorem dX5_opens_18 : decode cX5_opens 18 = .ok (.iload_n 1, 1) := by decide +kernel
theorem dX5_opens_19 : decode cX5_opens 19 = .ok (.iconst 0, 1) := by decide +kernel
theorem dX5_opens_20 : decode cX5_opens 20 = .ok (.iastore, 1) := by decide +kernel
theorem dX5_opens_21 : decode cX5_opens 21 = .ok (.iconst 3, 1) := by decide +kernel
theorem dX5_opens_22 : decode cX5_opens 22 = .ok (.iload_n 1, 1) := by decide +kernel
theorem dX5_opens_23 : decode cX5_opens 23 = .ok (.imul, 1) := by decide +kernel
theorem dX5_opens_24 : decode cX5_opens 24 = .ok (.istore_n 3, 1) := by decide +kernel
theorem dX5_opens_25 : decode cX5_opens 25 = .ok (.iload_n 3, 1) := by decide +kernel
theorem dX5_opens_26 : decode cX5_opens 26 = .ok (.iconst 3, 1) := by decide +kernel
theorem dX5_opens_27 : decode cX5_opens 27 = .ok (.iload_n 1, 1) := by decide +kernel
theorem dX5_opens_28 : decode cX5_opens 28 = .ok (.imul, 1) := by decide +kernel
theorem dX5_opens_29 : decode cX5_opens 29 = .ok (.iconst 3, 1) := by decide +kernel
theorem dX5_opens_30 : decode cX5_opens 30 = .ok (.iadd, 1) := by decide +kernel
theorem dX5_opens_31 : decode cX5_opens 31 = .ok (.if_icmp .ge 16, 3) := by decide +kernel
theorem dX5_opens_34 : decode cX5_opens 34 = .ok (.aload_n 0, 1) := by decide +kernel
theorem dX5_opens_35 : decode cX5_opens 35 = .ok (.getfield 83, 3) := by decide +kernel
theorem dX5_opens_38 : decode cX5_opens 38 = .ok (.iload_n 3, 1) := by decide +kernel
theorem dX5_opens_39 : decode cX5_opens 39 = .ok (.iconst (-1), 1) := by decide +kernel
theorem dX5_opens_40 : decode cX5_opens 40 = .ok (.iastore, 1) := by decide +kernel
theorem dX5_opens_41 : decode cX5_opens 41 = .ok (.iinc 3 1, 3) := by decide +kernel
theorem dX5_opens_44 : decode cX5_opens 44 = .ok (.goto (-19), 3) := by decide +kernel
theorem dX5_opens_47 : decode cX5_opens 47 = .ok (.return_, 1) := by decide +kernel
def tab_X5_opens : List (Nat × Sem) := [(0, op_al 0 1), (1, op_gf 7 24 4), (4, op_il 1 5), (5, op_ic 0 6), (6, op_iast 7), (7, op_al 0 8), (8, op_gf 7 25 11), (11, op_il 1 12), (12, op_il 2 13), (13, op_iast 14), (14, op_al 0 15), (15, op_gf 7 27 18), (18, op_il 1 19), (19, op_ic 0 20), (20, op_iast 21), (21, op_ic 3 22), (22, op_il 1 23), (23, op_bin (fun x y => x * y) 24), (24, op_is 3 25), (25, op_il 3 26), (26, op_ic 3 27), (27, op_il 1 28), (28, op_bin (fun x y => x * y) 29), (29, op_ic 3 30), (30, op_bin (fun x y => x + y) 31), (31, op_cmp (fun x y => y ≤ x) 47 34), (34, op_al 0 35), (35, op_gf 7 28 38), (38, op_il 3 39), (39, op_ic (-1) 40), (40, op_iast 41), (41, op_inc 3 1 44), (44, op_go 25), (47, op_vret)]
set_option maxRecDepth 20000 in
theorem tok_X5_opens : ∀ q ∈ tab_X5_opens, Snd RX5 cX5_opens 4 0 0 none q.1 q.2 := by
  unfold tab_X5_opens
  refine tcons (ok_aload_n dX5_opens_0 rfl rfl) ?_
  refine tcons (ok_getfield (C := RX5) (T := TX5) (n := 33) rfl in_X5 (by decide) w_1017 dX5_opens_1 rfl) ?_
  refine tcons (ok_iload_n dX5_opens_4 rfl rfl) ?_
  refine tcons (ok_iconst dX5_opens_5 rfl rfl) ?_
  refine tcons (ok_iastore dX5_opens_6 rfl) ?_
  refine tcons (ok_aload_n dX5_opens_7 rfl rfl) ?_
  refine tcons (ok_getfield (C := RX5) (T := TX5) (n := 33) rfl in_X5 (by decide) w_1018 dX5_opens_8 rfl) ?_
  refine tcons (ok_iload_n dX5_opens_11 rfl rfl) ?_
  refine tcons (ok_iload_n dX5_opens_12 rfl rfl) ?_
  refine tcons (ok_iastore dX5_opens_13 rfl) ?_
  refine tcons (ok_aload_n dX5_opens_14 rfl rfl) ?_
  refine tcons (ok_getfield (C := RX5) (T := TX5) (n := 33) rfl in_X5 (by decide) w_1020 dX5_opens_15 rfl) ?_
  refine tcons (ok_iload_n dX5_opens_18 rfl rfl) ?_
  refine tcons (ok_iconst dX5_opens_19 rfl rfl) ?_
  refine tcons (ok_iastore dX5_opens_20 rfl) ?_
  refine tcons (ok_iconst dX5_opens_21 rfl rfl) ?_
  refine tcons (ok_iload_n dX5_opens_22 rfl rfl) ?_
  refine tcons (ok_imul dX5_opens_23 rfl) ?_
  refine tcons (ok_istore_n dX5_opens_24 rfl (by decide) rfl) ?_
  refine tcons (ok_iload_n dX5_opens_25 rfl rfl) ?_
  refine tcons (ok_iconst dX5_opens_26 rfl rfl) ?_
  refine tcons (ok_iload_n dX5_opens_27 rfl rfl) ?_
  refine tcons (ok_imul dX5_opens_28 rfl) ?_
  refine tcons (ok_iconst dX5_opens_29 rfl rfl) ?_
  refine tcons (ok_iadd dX5_opens_30 rfl) ?_
  refine tcons (ok_icmp_ge dX5_opens_31 rfl rfl) ?_
  refine tcons (ok_aload_n dX5_opens_34 rfl rfl) ?_
  refine tcons (ok_getfield (C := RX5) (T := TX5) (n := 33) rfl in_X5 (by decide) w_1021 dX5_opens_35 rfl) ?_
  refine tcons (ok_iload_n dX5_opens_38 rfl rfl) ?_
  refine tcons (ok_iconst dX5_opens_39 rfl rfl) ?_
  refine tcons (ok_iastore dX5_opens_40 rfl) ?_
  refine tcons (ok_iinc dX5_opens_41 rfl (by decide) rfl) ?_
  refine tcons (ok_goto dX5_opens_44 rfl) ?_
  refine tcons (ok_vreturn rfl dX5_opens_47) ?_
  exact fun _ h => nomatch h
def sp_X5_opens : Spc := fun av s N _ => match av with
  | [.inl (.inr (20, 0)), .inl (.inl c), .inl (.inl w)] => Ib c 30 ∧ N none (stR (stS (stS (stS s 44 0 (cl c) 0) 45 0 (cl c) w) 47 0 (cl c) 0) 48 (3 * cl c) 3 (-1))
  | _ => False
theorem row3 (i : Nat) : (3 : Int32) * nI i = nI (3 * i) := by rw [show (3 : Int32) = nI 3 from rfl, nIm]
theorem row3k (i k : Nat) : (3 : Int32) * nI i + nI k = nI (3 * i + k) := by rw [row3, nI_add]
set_option maxRecDepth 20000 in
set_option maxHeartbeats 2000000 in
theorem M_X5_opens : AMet yX5_opens cX5_opens 4 none 0 0 sp_X5_opens := by
  refine AMet.mc (own := RX5) (by decide) rfl [0, 1, 2, 3] rfl tok_X5_opens 200 ?_
  intro av s0 N X h
  unfold sp_X5_opens at h
  split at h
  rotate_left
  · exact h.elim
  rename_i w
  obtain ⟨hp, h⟩ := h
  obtain ⟨i, hi, rfl⟩ := Ib_nI hp (by decide)
  have ev : cl (nI i) = i := nI_clamp (by omega)
  obtain ⟨s1, e1⟩ : ∃ z, z = stS (stS (stS s0 44 0 (cl (nI i)) 0) 45 0 (cl (nI i)) w) 47 0 (cl (nI i)) 0 := ⟨_, rfl⟩
  rw [← e1, ev] at h
  refine ⟨[(25, fun m u L st s => ∃ k, k ≤ 3 ∧ m = 3 - k ∧ u = 0 ∧ L = [(0, .inr (20, 0)), (1, .inl (nI i)), (2, .inl w), (3, .inl (nI (3 * i + k)))] ∧ st = [] ∧ s = stR s1 48 (3 * i) k (-1))], ?_, ac ?_ an⟩
  · repeat' (first | apply And.intro | (intro q; exact absurd q (by decide)) | intro _)
    all_goals first | decide | (exact Nat.le_of_ble_eq_true rfl) | exact hp | (exact ⟨3, 4, trivial, 0, by omega, rfl, rfl, by rw [Nat.add_zero, ← row3]; rfl, rfl, by rw [stR_0, e1]⟩)
  · rintro m u L st s ⟨k, hk, rfl, rfl, rfl, rfl, rfl⟩
    by_cases hkn : k < 3
    · have hle : ¬ (3 : Int32) * nI i + 3 ≤ nI (3 * i + k) := fun q => by
        rw [show (3 : Int32) * nI i + 3 = nI (3 * i + 3) from row3k i 3] at q
        have := (nIge (N := 100) (by omega) (by omega) (by decide)).mp q
        omega
      have hb1 : Ib (nI (3 * i + k)) 90 := nIb (by omega) (by decide)
      have e2 : (nI (3 * i + k)).toNatClampNeg = 3 * i + k := nI_clamp (by omega)
      clear h
      repeat' (first | apply And.intro | (intro q; exact absurd q (by decide)) | (intro q; exact absurd q hle) | intro _)
      all_goals first | decide | (exact Nat.le_of_ble_eq_true rfl) | exact hb1 | exact hp |
        (exact ⟨3 - (k + 1), 4, by omega, k + 1, by omega, rfl, rfl, by rw [← Nat.add_assoc, ← nIs]; rfl, rfl, by show stS _ 48 0 (nI (3 * i + k)).toNatClampNeg (-1) = _; rw [e2, stR_s]⟩)
    · obtain rfl : k = 3 := by omega
      have hle : (3 : Int32) * nI i + 3 ≤ nI (3 * i + 3) := by rw [show (3 : Int32) * nI i + 3 = nI (3 * i + 3) from row3k i 3]; exact nI_le (Nat.le_refl _) (by omega)
      repeat' (first | apply And.intro | (intro q; exact absurd q (by decide)) | (intro q; exact absurd hle q) | intro _)
      all_goals first | decide | (exact Nat.le_of_ble_eq_true rfl) | exact h

