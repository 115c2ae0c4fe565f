def op_cret : Sem := fun U _ N _ u _ st s => match st with
  | [.inl (.inl v)] => u ≤ U ∧ (∃ q, q < 65536 ∧ v = nI q) ∧ N (some (aI v)) s
  | _ => False
theorem ok_creturn {own : String} {cc : ByteArray} {nL d U : Nat} {ret : Option FieldType} {pc : Nat} (hr : ret = some .char) (hd : decode cc pc = .ok (.ireturn, 1)) : Snd own cc nL d U ret pc op_cret := by
  intro g p l e R s m args below meth c w0 hC ad K N X Q hQ k hk u L st s0 h
  intro H locs ls hP hS hl
  unfold op_cret at h
  split at h
  · rename_i v
    refine W.mono hQ (W.widen (Nat.mul_le_mul_right _ h.1) (Nat.mul_le_mul_right _ h.1) (vx_ret ?_))
    refine W.zret (ty := .char) hC.1.1 hC.1.2.1 (by rw [hC.2.2.2.1, hr]) ?_ (aQ_ret (v := some (aI v)) hP hS h.2.2) hS.2.2 hd hC.2.2.1
    obtain ⟨q, h1, rfl⟩ := h.2.1
    exact (pk_charN h1).1
  · exact h.elim
/-- the letters written so far -/
def tw (s : Sg) (l : List Int32) : Sg := (s.1, fun a b c => if a = 51 ∧ b = 0 ∧ c < l.length then l.getD c 0 else if a = 20 ∧ b = 0 ∧ c = 30 then nI l.length else s.2.1 a b c, s.2.2)
theorem tw_get {s : Sg} {l : List Int32} {a b c : Nat} : (tw s l).2.1 a b c = if a = 51 ∧ b = 0 ∧ c < l.length then l.getD c 0 else if a = 20 ∧ b = 0 ∧ c = 30 then nI l.length else s.2.1 a b c := rfl
theorem tw_0 {s : Sg} : stS s 20 0 30 0 = tw s [] := by
  refine Sg_ext rfl (fun a b c => ?_) rfl
  rw [stS_get, tw_get]
  by_cases h : a = 20 ∧ b = 0 ∧ c = 30
  · rw [if_pos h, if_neg (by simp), if_pos h]; rfl
  · rw [if_neg h, if_neg (by simp), if_neg h]
theorem tw_put {s : Sg} {l : List Int32} {x : Int32} : stS (stS (tw s l) 51 0 l.length x) 20 0 30 (nI l.length + 1) = tw s (l ++ [x]) := by
  refine Sg_ext rfl (fun a b c => ?_) rfl
  simp only [stS_get, tw_get, List.length_append, List.length_singleton, nIs]
  by_cases h : a = 20 ∧ b = 0 ∧ c = 30
  · obtain ⟨rfl, rfl, rfl⟩ := h
    simp
  · rw [if_neg h, if_neg h, if_neg h]
    by_cases h1 : a = 51 ∧ b = 0
    · obtain ⟨rfl, rfl⟩ := h1
      by_cases h2 : c = l.length
      · subst h2
        simp [List.getD_eq_getElem?_getD]
      · by_cases h3 : c < l.length
        · rw [if_neg (fun q => h2 q.2.2), if_pos ⟨rfl, rfl, h3⟩, if_pos ⟨rfl, rfl, by omega⟩]
          simp [List.getD_eq_getElem?_getD, List.getElem?_append_left h3]
        · rw [if_neg (fun q => h2 q.2.2), if_neg (fun q => h3 q.2.2), if_neg (by omega)]
    · rw [if_neg (fun q => h1 ⟨q.1, q.2.1⟩), if_neg (fun q => h1 ⟨q.1, q.2.1⟩), if_neg (fun q => h1 ⟨q.1, q.2.1⟩)]
def dig (k : Nat) : List Int32 := if 9 < k then [nI (48 + k / 10), nI (48 + k % 10)] else [nI (48 + k % 10)]
theorem dig_len (k : Nat) : (dig k).length ≤ 2 := by unfold dig; split <;> simp
theorem dX5_puts_0 : decode cX5_puts 0 = .ok (.aload_n 0, 1) := by decide +kernel
theorem dX5_puts_1 : decode cX5_puts 1 = .ok (.getfield 89, 3) := by decide +kernel
theorem dX5_puts_4 : decode cX5_puts 4 = .ok (.aload_n 0, 1) := by decide +kernel
theorem dX5_puts_5 : decode cX5_puts 5 = .ok (.getfield 205, 3) := by decide +kernel
theorem dX5_puts_8 : decode cX5_puts 8 = .ok (.iload_n 1, 1) := by decide +kernel
theorem dX5_puts_9 : decode cX5_puts 9 = .ok (.iastore, 1) := by decide +kernel
theorem dX5_puts_10 : decode cX5_puts 10 = .ok (.aload_n 0, 1) := by decide +kernel
theorem dX5_puts_11 : decode cX5_puts 11 = .ok (.dup, 1) := by decide +kernel
theorem dX5_puts_12 : decode cX5_puts 12 = .ok (.getfield 205, 3) := by decide +kernel
theorem dX5_puts_15 : decode cX5_puts 15 = .ok (.iconst 1, 1) := by decide +kernel
theorem dX5_puts_16 : decode cX5_puts 16 = .ok (.iadd, 1) := by decide +kernel
theorem dX5_puts_17 : decode cX5_puts 17 = .ok (.putfield 205, 3) := by decide +kernel
theorem dX5_puts_20 : decode cX5_puts 20 = .ok (.return_, 1) := by decide +kernel
def tab_X5_puts : List (Nat × Sem) := [(0, op_al 0 1), (1, op_gf 7 31 4), (4, op_al 0 5), (5, op_gf 7 30 8), (8, op_il 1 9), (9, op_iast 10), (10, op_al 0 11), (11, op_dup 12), (12, op_gf 7 30 15), (15, op_ic 1 16), (16, op_bin (fun x y => x + y) 17), (17, op_pf 7 30 20), (20, op_vret)]
set_option maxRecDepth 20000 in
theorem tok_X5_puts : ∀ q ∈ tab_X5_puts, Snd RX5 cX5_puts 2 0 0 none q.1 q.2 := by
  unfold tab_X5_puts
  refine tcons (ok_aload_n dX5_puts_0 rfl rfl) ?_
  refine tcons (ok_getfield (C := RX5) (T := TX5) (n := 33) rfl in_X5 (by decide) w_1024 dX5_puts_1 rfl) ?_
  refine tcons (ok_aload_n dX5_puts_4 rfl rfl) ?_
  refine tcons (ok_getfield (C := RX5) (T := TX5) (n := 33) rfl in_X5 (by decide) w_1023 dX5_puts_5 rfl) ?_
  refine tcons (ok_iload_n dX5_puts_8 rfl rfl) ?_
  refine tcons (ok_iastore dX5_puts_9 rfl) ?_
  refine tcons (ok_aload_n dX5_puts_10 rfl rfl) ?_
  refine tcons (ok_dup dX5_puts_11 rfl) ?_
  refine tcons (ok_getfield (C := RX5) (T := TX5) (n := 33) rfl in_X5 (by decide) w_1023 dX5_puts_12 rfl) ?_
  refine tcons (ok_iconst dX5_puts_15 rfl rfl) ?_
  refine tcons (ok_iadd dX5_puts_16 rfl) ?_
  refine tcons (ok_putfield (C := RX5) (T := TX5) (n := 33) tyX5 .int rfl in_X5 tyX5_ok nmX5 (by decide) rfl w_1023 rfl (Or.inl rfl) dX5_puts_17 rfl) ?_
  refine tcons (ok_vreturn rfl dX5_puts_20) ?_
  exact fun _ h => nomatch h
def sp_X5_puts : Spc := fun av s N _ => match av with
  | [.inl (.inr (20, 0)), .inl (.inl x)] => ∃ s1 l, s = tw s1 l ∧ l.length < 30 ∧ N none (tw s1 (l ++ [x]))
  | _ => False
set_option maxRecDepth 20000 in
set_option maxHeartbeats 2000000 in
theorem M_X5_puts : AMet yX5_puts cX5_puts 2 none 0 0 sp_X5_puts := by
  refine AMet.mc (own := RX5) (by decide) rfl [0, 1] rfl tok_X5_puts 200 ?_
  intro av s0 N X h
  unfold sp_X5_puts at h
  split at h
  rotate_left
  · exact h.elim
  obtain ⟨s1, l, rfl, hl, h⟩ := h
  have e1 : (tw s1 l).2.1 20 0 30 = nI l.length := by rw [tw_get]; simp
  have i0 : Ib ((tw s1 l).2.1 20 0 30) 30 := by rw [e1]; exact nIb hl (by decide)
  rename_i x
  have e2 : stS (stS (tw s1 l) 51 0 ((tw s1 l).2.1 20 0 30).toNatClampNeg x) 20 0 30 ((tw s1 l).2.1 20 0 30 + 1) = tw s1 (l ++ [x]) := by rw [e1, nI_clamp (by omega)]; exact tw_put
  rw [← e2] at h
  refine ⟨[], ?_, an⟩
  repeat' (first | apply And.intro | (intro q; exact absurd q (by decide)) | intro _)
  all_goals first | decide | (exact i0) | (exact Nat.le_of_ble_eq_true rfl) | (exact h)
theorem dX5_putsNumber_0 : decode cX5_putsNumber 0 = .ok (.iload_n 1, 1) := by decide +kernel
theorem dX5_putsNumber_1 : decode cX5_putsNumber 1 = .ok (.bipush 9, 2) := by decide +kernel
theorem dX5_putsNumber_3 : decode cX5_putsNumber 3 = .ok (.if_icmp .le 14, 3) := by decide +kernel
theorem dX5_putsNumber_6 : decode cX5_putsNumber 6 = .ok (.aload_n 0, 1) := by decide +kernel
theorem dX5_putsNumber_7 : decode cX5_putsNumber 7 = .ok (.bipush 48, 2) := by decide +kernel
theorem dX5_putsNumber_9 : decode cX5_putsNumber 9 = .ok (.iload_n 1, 1) := by decide +kernel
theorem dX5_putsNumber_10 : decode cX5_putsNumber 10 = .ok (.bipush 10, 2) := by decide +kernel
theorem dX5_putsNumber_12 : decode cX5_putsNumber 12 = .ok (.idiv, 1) := by decide +kernel
theorem dX5_putsNumber_13 : decode cX5_putsNumber 13 = .ok (.iadd, 1) := by decide +kernel
theorem dX5_putsNumber_14 : decode cX5_putsNumber 14 = .ok (.invokevirtual 208, 3) := by decide +kernel
theorem dX5_putsNumber_17 : decode cX5_putsNumber 17 = .ok (.aload_n 0, 1) := by decide +kernel
theorem dX5_putsNumber_18 : decode cX5_putsNumber 18 = .ok (.bipush 48, 2) := by decide +kernel
theorem dX5_putsNumber_20 : decode cX5_putsNumber 20 = .ok (.iload_n 1, 1) := by decide +kernel
theorem dX5_putsNumber_21 : decode cX5_putsNumber 21 = .ok (.bipush 10, 2) := by decide +kernel
theorem dX5_putsNumber_23 : decode cX5_putsNumber 23 = .ok (.irem, 1) := by decide +kernel
theorem dX5_putsNumber_24 : decode cX5_putsNumber 24 = .ok (.iadd, 1) := by decide +kernel
theorem dX5_putsNumber_25 : decode cX5_putsNumber 25 = .ok (.invokevirtual 208, 3) := by decide +kernel
theorem dX5_putsNumber_28 : decode cX5_putsNumber 28 = .ok (.return_, 1) := by decide +kernel
def tab_X5_putsNumber : List (Nat × Sem) := [(0, op_il 1 1), (1, op_ic 9 3), (3, op_cmp (fun x y => x ≤ y) 17 6), (6, op_al 0 7), (7, op_ic 48 9), (9, op_il 1 10), (10, op_ic 10 12), (12, op_dv (fun x y => x / y) 13), (13, op_bin (fun x y => x + y) 14), (14, op_callV 7 sp_X5_puts 2 0 17), (17, op_al 0 18), (18, op_ic 48 20), (20, op_il 1 21), (21, op_ic 10 23), (23, op_dv (fun x y => x - x / y * y) 24), (24, op_bin (fun x y => x + y) 25), (25, op_callV 7 sp_X5_puts 2 0 28), (28, op_vret)]
set_option maxRecDepth 20000 in
theorem tok_X5_putsNumber : ∀ q ∈ tab_X5_putsNumber, Snd RX5 cX5_putsNumber 2 1 0 none q.1 q.2 := by
  unfold tab_X5_putsNumber
  refine tcons (ok_iload_n dX5_putsNumber_0 rfl rfl) ?_
  refine tcons (ok_bipush dX5_putsNumber_1 rfl rfl) ?_
  refine tcons (ok_icmp_le dX5_putsNumber_3 rfl rfl) ?_
  refine tcons (ok_aload_n dX5_putsNumber_6 rfl rfl) ?_
  refine tcons (ok_bipush dX5_putsNumber_7 rfl rfl) ?_
  refine tcons (ok_iload_n dX5_putsNumber_9 rfl rfl) ?_
  refine tcons (ok_bipush dX5_putsNumber_10 rfl rfl) ?_
  refine tcons (ok_idiv dX5_putsNumber_12 rfl) ?_
  refine tcons (ok_iadd dX5_putsNumber_13 rfl) ?_
  refine tcons (ok_invokevirtual M_X5_puts (C := RX5) (T := TX5) (nf := 33) rfl w_1326 w_1328 w_40 w_49 w_1329 ⟨rfl, by decide, by decide, by decide +kernel⟩ (by decide) (by decide) dX5_putsNumber_14 rfl) ?_
  refine tcons (ok_aload_n dX5_putsNumber_17 rfl rfl) ?_
  refine tcons (ok_bipush dX5_putsNumber_18 rfl rfl) ?_
  refine tcons (ok_iload_n dX5_putsNumber_20 rfl rfl) ?_
  refine tcons (ok_bipush dX5_putsNumber_21 rfl rfl) ?_
  refine tcons (ok_irem dX5_putsNumber_23 rfl) ?_
  refine tcons (ok_iadd dX5_putsNumber_24 rfl) ?_
  refine tcons (ok_invokevirtual M_X5_puts (C := RX5) (T := TX5) (nf := 33) rfl w_1326 w_1328 w_40 w_49 w_1329 ⟨rfl, by decide, by decide, by decide +kernel⟩ (by decide) (by decide) dX5_putsNumber_25 rfl) ?_
  refine tcons (ok_vreturn rfl dX5_putsNumber_28) ?_
  exact fun _ h => nomatch h
def sp_X5_putsNumber : Spc := fun av s N _ => match av with
  | [.inl (.inr (20, 0)), .inl (.inl x)] => ∃ s1 l k, s = tw s1 l ∧ x = nI k ∧ k < 100 ∧ l.length < 29 ∧ N none (tw s1 (l ++ dig k))
  | _ => False
set_option maxRecDepth 20000 in
set_option maxHeartbeats 2000000 in
theorem M_X5_putsNumber : AMet yX5_putsNumber cX5_putsNumber 2 none 1 0 sp_X5_putsNumber := by
  refine AMet.mc (own := RX5) (by decide) rfl [0, 1] rfl tok_X5_putsNumber 200 ?_
  intro av s0 N X h
  unfold sp_X5_putsNumber at h
  split at h
  rotate_left
  · exact h.elim
  obtain ⟨s1, l, k, rfl, rfl, hk, hl, h⟩ := h
  have e1 : (48 : Int32) + nI k / 10 = nI (48 + k / 10) := by rw [show (10 : Int32) = nI 10 from rfl, pk_div (by omega) (by decide) (by decide), show (48 : Int32) = nI 48 from rfl, nI_add]
  have e2 : (48 : Int32) + (nI k - nI k / 10 * 10) = nI (48 + k % 10) := by rw [show (10 : Int32) = nI 10 from rfl, pk_rem (by omega) (by decide) (by decide), show (48 : Int32) = nI 48 from rfl, nI_add]
  have e3 : nI k ≤ 9 ↔ k ≤ 9 := nIge (b := k) (a := 9) (N := 100) (by omega) (by omega) (by decide)
  refine ⟨[], ?_, an⟩
  by_cases hk9 : 9 < k
  · have hd : dig k = [nI (48 + k / 10), nI (48 + k % 10)] := if_pos hk9
    rw [hd] at h
    repeat' (first | apply And.intro | (intro q; exact absurd q (by decide)) | (intro q; exact absurd (e3.mp q) (by omega)) | (refine Exists.intro s1 (Exists.intro l (And.intro rfl (And.intro (by omega) ?_)))) | (refine Exists.intro s1 (Exists.intro (l ++ [48 + nI k / 10]) (And.intro rfl (And.intro (by simp; omega) ?_)))) | intro _)
    all_goals first | decide | (exact Nat.le_of_ble_eq_true rfl) | skip
    all_goals (show N none (tw s1 (l ++ [48 + nI k / 10] ++ [48 + (nI k - nI k / 10 * 10)])); rw [e1, e2, List.append_assoc]; exact h)
  · have hd : dig k = [nI (48 + k % 10)] := if_neg hk9
    rw [hd] at h
    repeat' (first | apply And.intro | (intro q; exact absurd q (by decide)) | (intro q; exact absurd (e3.mpr (by omega)) q) | (refine Exists.intro s1 (Exists.intro l (And.intro rfl (And.intro (by omega) ?_)))) | intro _)
    all_goals first | decide | (exact Nat.le_of_ble_eq_true rfl) | skip
    all_goals (show N none (tw s1 (l ++ [48 + (nI k - nI k / 10 * 10)])); rw [e2]; exact h)

