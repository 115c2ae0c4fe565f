/-! constructors over plain worlds -/
theorem w_21 : (.initialized "java/util/AbstractCollection" : Cond) ∈ TB := TB_mem (List.mem_of_getElem? (i := 21) (by decide +kernel)) rfl
theorem w_22 : (.initialized "java/util/AbstractList" : Cond) ∈ TB := TB_mem (List.mem_of_getElem? (i := 22) (by decide +kernel)) rfl
theorem w_60 : (.methodLink "java/util/ArrayList" 1 ⟨"java/util/AbstractList", "<init>", "()V"⟩ : Cond) ∈ TB := TB_mem (List.mem_of_getElem? (i := 60) (by decide +kernel)) rfl
theorem w_61 : (.instanceMethod ⟨"java/util/AbstractList", "<init>", "()V"⟩ : Cond) ∈ TB := TB_mem (List.mem_of_getElem? (i := 61) (by decide +kernel)) rfl
theorem w_62 : (.code yJxc12de_init_da8c8 cJxc12de_init_da8c8 1 none : Cond) ∈ TB := TB_mem (List.mem_of_getElem? (i := 62) (by decide +kernel)) rfl
theorem w_63 : (.methodLink "java/util/AbstractList" 1 ⟨"java/util/AbstractCollection", "<init>", "()V"⟩ : Cond) ∈ TB := TB_mem (List.mem_of_getElem? (i := 63) (by decide +kernel)) rfl
theorem w_64 : (.instanceMethod ⟨"java/util/AbstractCollection", "<init>", "()V"⟩ : Cond) ∈ TB := TB_mem (List.mem_of_getElem? (i := 64) (by decide +kernel)) rfl
theorem w_65 : (.code yJxa1e45_init_da8c8 cJxa1e45_init_da8c8 1 none : Cond) ∈ TB := TB_mem (List.mem_of_getElem? (i := 65) (by decide +kernel)) rfl
theorem w_66 : (.methodLink "java/util/AbstractCollection" 1 ⟨"java/lang/Object", "<init>", "()V"⟩ : Cond) ∈ TB := TB_mem (List.mem_of_getElem? (i := 66) (by decide +kernel)) rfl
theorem w_67 : (.fieldLink "java/util/ArrayList" 39 "java/util/ArrayList" "DEFAULTCAPACITY_EMPTY_ELEMENTDATA" "[Ljava/lang/Object;" : Cond) ∈ TB := TB_mem (List.mem_of_getElem? (i := 67) (by decide +kernel)) rfl
theorem w_71 : (.fieldLink "java/util/AbstractList" 7 "java/util/AbstractList" "modCount" "I" : Cond) ∈ TB := TB_mem (List.mem_of_getElem? (i := 71) (by decide +kernel)) rfl
def fR (f : Nat → Int32) (i : Nat) (v : Int32) : Nat → Int32 := fun j => if j < i then v else f j
theorem fR_s {f : Nat → Int32} {i : Nat} {v : Int32} : upd (fR f i v) i v = fR f (i + 1) v := by
  funext j
  show (if j = i then v else if j < i then v else f j) = if j < i + 1 then v else f j
  by_cases h : j = i
  · rw [if_pos h, if_pos (by omega)]
  · rw [if_neg h]
    by_cases h2 : j < i
    · rw [if_pos h2, if_pos (by omega)]
    · rw [if_neg h2, if_neg (by omega)]
theorem fR_0 {f : Nat → Int32} {v : Int32} : fR f 0 v = f := by funext j; exact if_neg (Nat.not_lt_zero j)
def tabR_J7_fill_53178 : List (Nat × RSem) := [(0, rp_ic 0 1), (1, rp_is 2 2), (2, rp_al 0 3), (3, rp_alen 4), (4, rp_is 3 5), (5, rp_il 2 6), (6, rp_il 3 7), (7, rp_cmp (fun x y => y ≤ x) 20 10), (10, rp_al 0 11), (11, rp_il 2 12), (12, rp_il 1 13), (13, rp_iast 14), (14, rp_inc 2 1 17), (17, rp_go 5), (20, rp_vret)]
set_option maxRecDepth 20000 in
theorem tokR_J7_fill_53178 : ∀ q ∈ tabR_J7_fill_53178, RSnd false RJ7 cJ7_fill_53178 4 0 0 none q.1 q.2 := by
  unfold tabR_J7_fill_53178
  refine rcons (rk_iconst dJ7_fill_53178_0 rfl rfl) ?_
  refine rcons (rk_istore_n dJ7_fill_53178_1 rfl (by decide) rfl) ?_
  refine rcons (rk_aload_n dJ7_fill_53178_2 rfl rfl) ?_
  refine rcons (rk_arraylength dJ7_fill_53178_3 rfl) ?_
  refine rcons (rk_istore_n dJ7_fill_53178_4 rfl (by decide) rfl) ?_
  refine rcons (rk_iload_n dJ7_fill_53178_5 rfl rfl) ?_
  refine rcons (rk_iload_n dJ7_fill_53178_6 rfl rfl) ?_
  refine rcons (rk_icmp_ge dJ7_fill_53178_7 rfl rfl) ?_
  refine rcons (rk_aload_n dJ7_fill_53178_10 rfl rfl) ?_
  refine rcons (rk_iload_n dJ7_fill_53178_11 rfl rfl) ?_
  refine rcons (rk_iload_n dJ7_fill_53178_12 rfl rfl) ?_
  refine rcons (rk_iastore dJ7_fill_53178_13 rfl) ?_
  refine rcons (rk_iinc dJ7_fill_53178_14 rfl (by decide) rfl) ?_
  refine rcons (rk_goto dJ7_fill_53178_17 rfl) ?_
  refine rcons (rk_vreturn rfl dJ7_fill_53178_20) ?_
  exact fun _ h => nomatch h
def rs_J7_fill_53178 : RSpc := fun g av w N => match av, w with
  | [.inl (.inr (_, a)), .inl (.inl v)], (b, .inl (c, (n, .inl f))) :: r => a = b ∧ c = g.2.1 0 ∧ n < 2 ^ 30 ∧ N none ((b, .inl (c, (n, .inl (fR f n v)))) :: r)
  | _, _ => False
theorem R_J7_fill_53178 : RMet yJ7_fill_53178 cJ7_fill_53178 4 none 0 0 rs_J7_fill_53178 := by
  refine RMet.mk (own := RJ7) false (fun h => nomatch h) (by decide) rfl [0, 1, 2, 3] rfl tokR_J7_fill_53178 200 ?_
  intro g av w N h
  unfold rs_J7_fill_53178 at h
  split at h
  · rename_i x a v b c n f r
    obtain ⟨rfl, rfl, hn, h⟩ := h
    refine ⟨[(5, fun m u L st w => ∃ k, k ≤ n ∧ m = n - k ∧ u = 0 ∧ L = [(0, .inr (x, a)), (1, .inl v), (2, .inl (nI k)), (3, .inl (nI n))] ∧ st = [] ∧ w = (a, .inl (g.2.1 0, (n, .inl (fR f k v)))) :: r)], ?_, ac ?_ an⟩
    · exact ⟨0, n, f, rfl, n, 4, trivial, 0, Nat.zero_le _, rfl, rfl, by rw [nI_0]; rfl, rfl, by rw [fR_0]⟩
    · rintro m u L st w1 ⟨k, hk, rfl, rfl, rfl, rfl, rfl⟩
      by_cases hkn : k < n
      · have hle : ¬ nI n ≤ nI k := fun q => by have := (nIge (a := k) (b := n) (N := 2 ^ 30 - 1) (by omega) (by omega) (by decide)).mp q; omega
        have c0 : (nI k).toNatClampNeg = k := nI_clamp (by omega)
        exact ⟨fun q => absurd q hle, fun _ => ⟨0, n, fR f k v, rfl, nIb hkn (by omega), n - (k + 1), 4, by omega, k + 1, by omega, rfl, rfl, by rw [← nIs]; rfl, rfl, by rw [c0, fR_s]; rfl⟩⟩
      · obtain rfl : k = n := by omega
        exact ⟨fun _ => ⟨Nat.le_refl _, h⟩, fun q => absurd (nI_le (Nat.le_refl _) (by omega)) q⟩
  · exact h.elim
theorem dJxa1e45_init_da8c8_0 : decode cJxa1e45_init_da8c8 0 = .ok (.aload_n 0, 1) := by decide +kernel
theorem dJxa1e45_init_da8c8_1 : decode cJxa1e45_init_da8c8 1 = .ok (.invokespecial 1, 3) := by decide +kernel
theorem dJxa1e45_init_da8c8_4 : decode cJxa1e45_init_da8c8 4 = .ok (.return_, 1) := by decide +kernel
def tabR_Jxa1e45_init_da8c8 : List (Nat × RSem) := [(0, rp_al 0 1), (1, rp_oinit 4), (4, rp_vret)]
set_option maxRecDepth 20000 in
theorem tokR_Jxa1e45_init_da8c8 : ∀ q ∈ tabR_Jxa1e45_init_da8c8, RSnd true RJxa1e45 cJxa1e45_init_da8c8 1 1 0 none q.1 q.2 := by
  unfold tabR_Jxa1e45_init_da8c8
  refine rcons (rk_aload_n dJxa1e45_init_da8c8_0 rfl rfl) ?_
  refine rcons (rk_oinit w_66 (by decide) dJxa1e45_init_da8c8_1 rfl) ?_
  refine rcons (rk_vreturn rfl dJxa1e45_init_da8c8_4) ?_
  exact fun _ h => nomatch h
def rs_Jxa1e45_init_da8c8 : RSpc := fun _ av w N => match av with
  | [.inl (.inr (_, _))] => N none w
  | _ => False
theorem R_Jxa1e45_init_da8c8 : RMet yJxa1e45_init_da8c8 cJxa1e45_init_da8c8 1 none 1 0 rs_Jxa1e45_init_da8c8 := by
  refine RMet.mk (own := RJxa1e45) true (fun _ => rfl) (by decide) rfl [0] rfl tokR_Jxa1e45_init_da8c8 200 ?_
  intro g av w N h
  unfold rs_Jxa1e45_init_da8c8 at h
  split at h
  · exact ⟨[], ⟨by decide, Nat.le_refl _, h⟩, an⟩
  · exact h.elim
theorem dJxc12de_init_da8c8_0 : decode cJxc12de_init_da8c8 0 = .ok (.aload_n 0, 1) := by decide +kernel
theorem dJxc12de_init_da8c8_1 : decode cJxc12de_init_da8c8 1 = .ok (.invokespecial 1, 3) := by decide +kernel
theorem dJxc12de_init_da8c8_4 : decode cJxc12de_init_da8c8 4 = .ok (.aload_n 0, 1) := by decide +kernel
theorem dJxc12de_init_da8c8_5 : decode cJxc12de_init_da8c8 5 = .ok (.iconst 0, 1) := by decide +kernel
theorem dJxc12de_init_da8c8_6 : decode cJxc12de_init_da8c8 6 = .ok (.putfield 7, 3) := by decide +kernel
theorem dJxc12de_init_da8c8_9 : decode cJxc12de_init_da8c8 9 = .ok (.return_, 1) := by decide +kernel
def tabR_Jxc12de_init_da8c8 : List (Nat × RSem) := [(0, rp_al 0 1), (1, rp_callI rs_Jxa1e45_init_da8c8 1 0 4), (4, rp_al 0 5), (5, rp_ic 0 6), (6, rp_pf 1 0 .int 9), (9, rp_vret)]
set_option maxRecDepth 20000 in
theorem tokR_Jxc12de_init_da8c8 : ∀ q ∈ tabR_Jxc12de_init_da8c8, RSnd true RJxc12de cJxc12de_init_da8c8 1 2 0 none q.1 q.2 := by
  unfold tabR_Jxc12de_init_da8c8
  refine rcons (rk_aload_n dJxc12de_init_da8c8_0 rfl rfl) ?_
  refine rcons (rk_invokeinit R_Jxa1e45_init_da8c8 w_63 w_64 w_21 w_65 rfl ⟨by decide, by decide, by decide +kernel⟩ (by decide) (by decide) dJxc12de_init_da8c8_1 rfl) ?_
  refine rcons (rk_aload_n dJxc12de_init_da8c8_4 rfl rfl) ?_
  refine rcons (rk_iconst dJxc12de_init_da8c8_5 rfl rfl) ?_
  refine rcons (rk_putfield (C := RJx4a65c) (T := TJx4a65c) (n := 3) tyJx4a65c .int rfl in_Jx4a65c tyJx4a65c_ok nmJx4a65c (by decide) rfl w_71 rfl dJxc12de_init_da8c8_6 rfl) ?_
  refine rcons (rk_vreturn rfl dJxc12de_init_da8c8_9) ?_
  exact fun _ h => nomatch h
def rs_Jxc12de_init_da8c8 : RSpc := fun _ av w N => match av, w with
  | [.inl (.inr (_, a))], (b, .inr (1, [.int _, v, z])) :: r => a = b ∧ N none ((b, .inr (1, [.int 0, v, z])) :: r)
  | _, _ => False
theorem R_Jxc12de_init_da8c8 : RMet yJxc12de_init_da8c8 cJxc12de_init_da8c8 1 none 2 0 rs_Jxc12de_init_da8c8 := by
  refine RMet.mk (own := RJxc12de) true (fun _ => rfl) (by decide) rfl [0] rfl tokR_Jxc12de_init_da8c8 200 ?_
  intro g av w N h
  unfold rs_Jxc12de_init_da8c8 at h
  split at h
  · obtain ⟨rfl, h⟩ := h
    exact ⟨[], ⟨Nat.le_refl _, by decide, 0, rfl, rfl, rfl, 0, _, rfl, Nat.le_of_ble_eq_true rfl, Nat.le_refl _, h⟩, an⟩
  · exact h.elim
theorem dJx4a65c_init_da8c8_0 : decode cJx4a65c_init_da8c8 0 = .ok (.aload_n 0, 1) := by decide +kernel
theorem dJx4a65c_init_da8c8_1 : decode cJx4a65c_init_da8c8 1 = .ok (.invokespecial 1, 3) := by decide +kernel
theorem dJx4a65c_init_da8c8_4 : decode cJx4a65c_init_da8c8 4 = .ok (.aload_n 0, 1) := by decide +kernel
theorem dJx4a65c_init_da8c8_5 : decode cJx4a65c_init_da8c8 5 = .ok (.getstatic 39, 3) := by decide +kernel
theorem dJx4a65c_init_da8c8_8 : decode cJx4a65c_init_da8c8 8 = .ok (.putfield 9, 3) := by decide +kernel
theorem dJx4a65c_init_da8c8_11 : decode cJx4a65c_init_da8c8 11 = .ok (.return_, 1) := by decide +kernel
def tabR_Jx4a65c_init_da8c8 : List (Nat × RSem) := [(0, rp_al 0 1), (1, rp_callI rs_Jxc12de_init_da8c8 1 0 4), (4, rp_al 0 5), (5, rp_gse 8), (8, rp_pf 1 1 (.array (.object "java/lang/Object")) 11), (11, rp_vret)]
set_option maxRecDepth 20000 in
theorem tokR_Jx4a65c_init_da8c8 : ∀ q ∈ tabR_Jx4a65c_init_da8c8, RSnd true RJx4a65c cJx4a65c_init_da8c8 1 3 0 none q.1 q.2 := by
  unfold tabR_Jx4a65c_init_da8c8
  refine rcons (rk_aload_n dJx4a65c_init_da8c8_0 rfl rfl) ?_
  refine rcons (rk_invokeinit R_Jxc12de_init_da8c8 w_60 w_61 w_22 w_62 rfl ⟨by decide, by decide, by decide +kernel⟩ (by decide) (by decide) dJx4a65c_init_da8c8_1 rfl) ?_
  refine rcons (rk_aload_n dJx4a65c_init_da8c8_4 rfl rfl) ?_
  refine rcons (rk_gse w_67 dJx4a65c_init_da8c8_5 rfl) ?_
  refine rcons (rk_putfield (C := RJx4a65c) (T := TJx4a65c) (n := 3) tyJx4a65c (.array (.object "java/lang/Object")) rfl in_Jx4a65c tyJx4a65c_ok nmJx4a65c (by decide) rfl w_69 rfl dJx4a65c_init_da8c8_8 rfl) ?_
  refine rcons (rk_vreturn rfl dJx4a65c_init_da8c8_11) ?_
  exact fun _ h => nomatch h
def rs_Jx4a65c_init_da8c8 : RSpc := fun g av w N => match av, w with
  | [.inl (.inr (_, a))], (b, .inr (1, [.int _, _, z])) :: r => a = b ∧ N none ((b, .inr (1, [.int 0, .ref (g.2.1 73000), z])) :: r)
  | _, _ => False
theorem R_Jx4a65c_init_da8c8 : RMet yJx4a65c_init_da8c8 cJx4a65c_init_da8c8 1 none 3 0 rs_Jx4a65c_init_da8c8 := by
  refine RMet.mk (own := RJx4a65c) true (fun _ => rfl) (by decide) rfl [0] rfl tokR_Jx4a65c_init_da8c8 200 ?_
  intro g av w N h
  unfold rs_Jx4a65c_init_da8c8 at h
  split at h
  · obtain ⟨rfl, h⟩ := h
    exact ⟨[], ⟨Nat.le_refl _, by decide, 0, rfl, rfl, rfl, rfl, 0, _, rfl, Nat.le_of_ble_eq_true rfl, Nat.le_refl _, h⟩, an⟩
  · exact h.elim

