/-! constructors over plain worlds: Lines, the court -/
theorem w_52 : (.methodLink "VowCourt" 3 ⟨"java/lang/Object", "<init>", "()V"⟩ : Cond) ∈ TB := TB_mem (List.mem_of_getElem? (i := 52) (by decide +kernel)) rfl
theorem w_55 : (.classLink "VowCourt" 9 "java/util/ArrayList" : Cond) ∈ TB := TB_mem (List.mem_of_getElem? (i := 55) (by decide +kernel)) rfl
theorem w_56 : (.instantiable "java/util/ArrayList" 3 : Cond) ∈ TB := TB_mem (List.mem_of_getElem? (i := 56) (by decide +kernel)) rfl
theorem w_57 : (.methodLink "VowCourt" 11 ⟨"java/util/ArrayList", "<init>", "()V"⟩ : Cond) ∈ TB := TB_mem (List.mem_of_getElem? (i := 57) (by decide +kernel)) rfl
theorem w_58 : (.instanceMethod ⟨"java/util/ArrayList", "<init>", "()V"⟩ : Cond) ∈ TB := TB_mem (List.mem_of_getElem? (i := 58) (by decide +kernel)) rfl
theorem w_59 : (.code yJx4a65c_init_da8c8 cJx4a65c_init_da8c8 1 none : Cond) ∈ TB := TB_mem (List.mem_of_getElem? (i := 59) (by decide +kernel)) rfl
theorem w_81 : (.classLink "VowCourt" 22 "VowCourt$Lines" : Cond) ∈ TB := TB_mem (List.mem_of_getElem? (i := 81) (by decide +kernel)) rfl
theorem w_82 : (.instantiable "VowCourt$Lines" 1 : Cond) ∈ TB := TB_mem (List.mem_of_getElem? (i := 82) (by decide +kernel)) rfl
theorem w_83 : (.methodLink "VowCourt" 24 ⟨"VowCourt$Lines", "<init>", "()V"⟩ : Cond) ∈ TB := TB_mem (List.mem_of_getElem? (i := 83) (by decide +kernel)) rfl
theorem w_84 : (.instanceMethod ⟨"VowCourt$Lines", "<init>", "()V"⟩ : Cond) ∈ TB := TB_mem (List.mem_of_getElem? (i := 84) (by decide +kernel)) rfl
theorem w_85 : (.code yX1_init cX1_init 2 none : Cond) ∈ TB := TB_mem (List.mem_of_getElem? (i := 85) (by decide +kernel)) rfl
theorem w_86 : (.methodLink "VowCourt$Lines" 3 ⟨"java/lang/Object", "<init>", "()V"⟩ : Cond) ∈ TB := TB_mem (List.mem_of_getElem? (i := 86) (by decide +kernel)) rfl
theorem w_87 : (.classLink "VowCourt$Lines" 9 "[[I" : Cond) ∈ TB := TB_mem (List.mem_of_getElem? (i := 87) (by decide +kernel)) rfl
theorem w_89 : (.methodLink "VowCourt$Lines" 16 ⟨"java/util/Arrays", "fill", "([II)V"⟩ : Cond) ∈ TB := TB_mem (List.mem_of_getElem? (i := 89) (by decide +kernel)) rfl
theorem w_97 : (.classLink "VowCourt" 29 "[[I" : Cond) ∈ TB := TB_mem (List.mem_of_getElem? (i := 97) (by decide +kernel)) rfl
theorem w_123 : (.arrayClass .boolean : Cond) ∈ TB := TB_mem (List.mem_of_getElem? (i := 123) (by decide +kernel)) rfl
theorem gs_aoa (g : GPm) (U : State) (h : GS g U) : va_AOA .int U := h.2.2.2.2.2.2.2.2.2.2.2.2.2.2.2.1
def rwE (g : GPm) (n : Nat) (r : Nat → Nat) : va_E := .inl (g.2.1 3, (n, .inr (.inr (.inr (.inr (fun i => if i < n then some (r i) else none))))))
def zR (g : GPm) (n k : Nat) (r : Nat → Nat) : va_W := (List.range n).map (fun i => (r i, (.inl (g.2.1 0, (k, .inl (fun _ => 0))) : va_E)))
def lnR (g : GPm) (r : Nat → Nat) (k : Nat) : va_W := (List.range 24).map (fun i => (r i, (.inl (g.2.1 0, (24, .inl (fR (fun _ => 0) (if i < k then 24 else 0) 100))) : va_E)))
theorem lnR_0 {g : GPm} {r : Nat → Nat} : lnR g r 0 = zR g 24 24 r := by
  unfold lnR zR
  refine List.map_congr_left fun i _ => ?_
  rw [if_neg (Nat.not_lt_zero i), fR_0]
theorem rng_drop {α : Type} (f : Nat → α) {n k : Nat} (h : k < n) : ((List.range n).map f).drop k = f k :: ((List.range n).map f).drop (k + 1) := by
  rw [List.drop_eq_getElem_cons (by simpa using h)]
  simp
theorem rng_put {α : Type} {f f' : Nat → α} {n k : Nat} (h : k < n) {v : α} (hv : f' k = v) (ho : ∀ j, j ≠ k → f' j = f j) : ((List.range n).map f).take k ++ v :: ((List.range n).map f).drop (k + 1) = (List.range n).map f' := by
  rw [← rng_set (f := f) (k := k) hv ho, List.set_eq_take_append_cons_drop, if_pos (by simpa using h)]
theorem lnR_drop {g : GPm} {r : Nat → Nat} {k : Nat} (h : k < 24) : (lnR g r k).drop k = (r k, (.inl (g.2.1 0, (24, .inl (fun _ => 0))) : va_E)) :: (lnR g r k).drop (k + 1) := by
  refine (rng_drop _ h).trans ?_
  rw [if_neg (Nat.lt_irrefl k), fR_0]
  rfl
theorem lnR_step {g : GPm} {r : Nat → Nat} {k : Nat} (h : k < 24) : (lnR g r k).take k ++ (r k, (.inl (g.2.1 0, (24, .inl (fR (fun _ => 0) 24 100))) : va_E)) :: (lnR g r k).drop (k + 1) = lnR g r (k + 1) := by
  refine rng_put h ?_ fun j hj => ?_
  · rw [if_pos (Nat.lt_succ_self k)]
  · by_cases hjk : j < k
    · rw [if_pos hjk, if_pos (by omega)]
    · rw [if_neg hjk, if_neg (by omega)]
theorem dX1_init_0 : decode cX1_init 0 = .ok (.aload_n 0, 1) := by decide +kernel
theorem dX1_init_1 : decode cX1_init 1 = .ok (.invokespecial 3, 3) := by decide +kernel
theorem dX1_init_4 : decode cX1_init 4 = .ok (.aload_n 0, 1) := by decide +kernel
theorem dX1_init_5 : decode cX1_init 5 = .ok (.bipush 24, 2) := by decide +kernel
theorem dX1_init_7 : decode cX1_init 7 = .ok (.bipush 24, 2) := by decide +kernel
theorem dX1_init_9 : decode cX1_init 9 = .ok (.multianewarray 9 2, 4) := by decide +kernel
theorem dX1_init_13 : decode cX1_init 13 = .ok (.putfield 11, 3) := by decide +kernel
theorem dX1_init_16 : decode cX1_init 16 = .ok (.iconst 0, 1) := by decide +kernel
theorem dX1_init_17 : decode cX1_init 17 = .ok (.istore_n 1, 1) := by decide +kernel
theorem dX1_init_18 : decode cX1_init 18 = .ok (.iload_n 1, 1) := by decide +kernel
theorem dX1_init_19 : decode cX1_init 19 = .ok (.bipush 24, 2) := by decide +kernel
theorem dX1_init_21 : decode cX1_init 21 = .ok (.if_icmp .ge 20, 3) := by decide +kernel
theorem dX1_init_24 : decode cX1_init 24 = .ok (.aload_n 0, 1) := by decide +kernel
theorem dX1_init_25 : decode cX1_init 25 = .ok (.getfield 11, 3) := by decide +kernel
theorem dX1_init_28 : decode cX1_init 28 = .ok (.iload_n 1, 1) := by decide +kernel
theorem dX1_init_29 : decode cX1_init 29 = .ok (.aaload, 1) := by decide +kernel
theorem dX1_init_30 : decode cX1_init 30 = .ok (.bipush 100, 2) := by decide +kernel
theorem dX1_init_32 : decode cX1_init 32 = .ok (.invokestatic 16, 3) := by decide +kernel
theorem dX1_init_35 : decode cX1_init 35 = .ok (.iinc 1 1, 3) := by decide +kernel
theorem dX1_init_38 : decode cX1_init 38 = .ok (.goto (-20), 3) := by decide +kernel
theorem dX1_init_41 : decode cX1_init 41 = .ok (.return_, 1) := by decide +kernel
def tabR_X1_init : List (Nat × RSem) := [(0, rp_al 0 1), (1, rp_oinit 4), (4, rp_al 0 5), (5, rp_ic 24 7), (7, rp_ic 24 9), (9, rp_mna 24 24 25 13), (13, rp_pf 3 0 (.array (.array .int)) 16), (16, rp_ic 0 17), (17, rp_is 1 18), (18, rp_il 1 19), (19, rp_ic 24 21), (21, rp_cmp (fun x y => y ≤ x) 41 24), (24, rp_al 0 25), (25, rp_gf 3 0 28), (28, rp_il 1 29), (29, rp_aald 30), (30, rp_ic 100 32), (32, rp_call rs_J7_fill_53178 2 0 35), (35, rp_inc 1 1 38), (38, rp_go 18), (41, rp_vret)]
set_option maxRecDepth 20000 in
theorem tokR_X1_init : ∀ q ∈ tabR_X1_init, RSnd true RX1 cX1_init 2 1 26 none q.1 q.2 := by
  unfold tabR_X1_init
  refine rcons (rk_aload_n dX1_init_0 rfl rfl) ?_
  refine rcons (rk_oinit w_86 (by decide) dX1_init_1 rfl) ?_
  refine rcons (rk_aload_n dX1_init_4 rfl rfl) ?_
  refine rcons (rk_bipush dX1_init_5 rfl rfl) ?_
  refine rcons (rk_bipush dX1_init_7 rfl rfl) ?_
  refine rcons (rk_mna w_87 gs_aoa w_96 (by decide) (by decide) (by decide) (by decide) (by decide) dX1_init_9 rfl) ?_
  refine rcons (rk_putfieldF (C := RX1) (T := TX1) (n := 1) tyX1 (.array (.array .int)) rfl in_X1 tyX1_ok nmX1 (by decide) rfl rfl w_92 rfl dX1_init_13 rfl) ?_
  refine rcons (rk_iconst dX1_init_16 rfl rfl) ?_
  refine rcons (rk_istore_n dX1_init_17 rfl (by decide) rfl) ?_
  refine rcons (rk_iload_n dX1_init_18 rfl rfl) ?_
  refine rcons (rk_bipush dX1_init_19 rfl rfl) ?_
  refine rcons (rk_icmp_ge dX1_init_21 rfl rfl) ?_
  refine rcons (rk_aload_n dX1_init_24 rfl rfl) ?_
  refine rcons (rk_getfield (C := RX1) (T := TX1) (n := 1) rfl in_X1 (by decide) w_92 dX1_init_25 rfl) ?_
  refine rcons (rk_iload_n dX1_init_28 rfl rfl) ?_
  refine rcons (rk_aaload dX1_init_29 rfl) ?_
  refine rcons (rk_bipush dX1_init_30 rfl rfl) ?_
  refine rcons (rk_invokestatic R_J7_fill_53178 w_89 w_90 w_25 w_91 ⟨by decide, by decide, by decide +kernel⟩ (by decide) (by decide) dX1_init_32 rfl) ?_
  refine rcons (rk_iinc dX1_init_35 rfl (by decide) rfl) ?_
  refine rcons (rk_goto dX1_init_38 rfl) ?_
  refine rcons (rk_vreturn rfl dX1_init_41) ?_
  exact fun _ h => nomatch h
def rs_X1_init : RSpc := fun g av w N => match av, w with
  | [.inl (.inr (_, a))], [(b, .inr (3, [_]))] => a = b ∧ ∀ (q : Nat) (r : Nat → Nat), N none ((b, .inr (3, [.ref q])) :: (q, rwE g 24 r) :: lnR g r 24)
  | _, _ => False
theorem R_X1_init : RMet yX1_init cX1_init 2 none 1 26 rs_X1_init := by
  refine RMet.mk (own := RX1) true (fun _ => rfl) (by decide) rfl [0, 1] rfl tokR_X1_init 300 ?_
  intro g av w N h
  unfold rs_X1_init at h
  split at h
  · rename_i x a b v
    obtain ⟨rfl, h⟩ := h
    refine ⟨[(18, fun m u L st w => ∃ (q : Nat) (r : Nat → Nat) (k : Nat), k ≤ 24 ∧ m = 24 - k ∧ u = 25 ∧ L = [(0, .inr (x, a)), (1, .inl (nI k))] ∧ st = [] ∧ w = (a, .inr (3, [.ref q])) :: (q, rwE g 24 r) :: lnR g r k)], ?_, ac ?_ an⟩
    · exact ⟨by (first | decide | exact Nat.le_of_ble_eq_true rfl), by (first | decide | exact Nat.le_of_ble_eq_true rfl), by (first | decide | exact Nat.le_of_ble_eq_true rfl), rfl, rfl, by (first | decide | exact Nat.le_of_ble_eq_true rfl), fun q r => ⟨rfl, rfl, 0, _, rfl, Nat.le_of_ble_eq_true rfl, 24, 2, trivial, q, r, 0, by (first | decide | exact Nat.le_of_ble_eq_true rfl), rfl, rfl, rfl, rfl, by rw [lnR_0]; rfl⟩⟩
    · rintro m u L st w1 ⟨q, r, k, hk, rfl, rfl, rfl, rfl, rfl⟩
      by_cases hkn : k < 24
      · have hle : ¬ (24 : Int32) ≤ nI k := fun q => by have := (nIge (a := k) (b := 24) (N := 30) (by omega) (by omega) (by decide)).mp q; omega
        have c0 : (nI k).toNatClampNeg = k := nI_clamp (by omega)
        refine ⟨fun q => absurd q hle, fun _ => ⟨0, _, rfl, 1, 24, _, r k, rfl, nIb hkn (by decide), by rw [c0, if_pos hkn], by (first | decide | exact Nat.le_of_ble_eq_true rfl), by (first | decide | exact Nat.le_of_ble_eq_true rfl), k + 2, ?_⟩⟩
        show rs_J7_fill_53178 g [aA (r k), aI 100] ((lnR g r k).drop k) _
        rw [lnR_drop hkn]
        exact ⟨rfl, rfl, by (first | decide | exact Nat.le_of_ble_eq_true rfl), 24 - (k + 1), 2, by omega, q, r, k + 1, by omega, rfl, rfl, by rw [← nIs]; rfl, rfl, by rw [← lnR_step hkn]; rfl⟩
      · obtain rfl : k = 24 := by omega
        exact ⟨fun _ => ⟨by (first | decide | exact Nat.le_of_ble_eq_true rfl), h q r⟩, fun q => absurd (show (24 : Int32) ≤ nI 24 by decide) q⟩
  · exact h.elim
theorem dX4_init_0 : decode cX4_init 0 = .ok (.aload_n 0, 1) := by decide +kernel
theorem dX4_init_1 : decode cX4_init 1 = .ok (.invokespecial 3, 3) := by decide +kernel
theorem dX4_init_4 : decode cX4_init 4 = .ok (.aload_n 0, 1) := by decide +kernel
theorem dX4_init_5 : decode cX4_init 5 = .ok (.new 9, 3) := by decide +kernel
theorem dX4_init_8 : decode cX4_init 8 = .ok (.dup, 1) := by decide +kernel
theorem dX4_init_9 : decode cX4_init 9 = .ok (.invokespecial 11, 3) := by decide +kernel
theorem dX4_init_12 : decode cX4_init 12 = .ok (.putfield 12, 3) := by decide +kernel
theorem dX4_init_15 : decode cX4_init 15 = .ok (.aload_n 0, 1) := by decide +kernel
theorem dX4_init_16 : decode cX4_init 16 = .ok (.new 9, 3) := by decide +kernel
theorem dX4_init_19 : decode cX4_init 19 = .ok (.dup, 1) := by decide +kernel
theorem dX4_init_20 : decode cX4_init 20 = .ok (.invokespecial 11, 3) := by decide +kernel
theorem dX4_init_23 : decode cX4_init 23 = .ok (.putfield 16, 3) := by decide +kernel
theorem dX4_init_26 : decode cX4_init 26 = .ok (.aload_n 0, 1) := by decide +kernel
theorem dX4_init_27 : decode cX4_init 27 = .ok (.new 9, 3) := by decide +kernel
theorem dX4_init_30 : decode cX4_init 30 = .ok (.dup, 1) := by decide +kernel
theorem dX4_init_31 : decode cX4_init 31 = .ok (.invokespecial 11, 3) := by decide +kernel
theorem dX4_init_34 : decode cX4_init 34 = .ok (.putfield 19, 3) := by decide +kernel
theorem dX4_init_37 : decode cX4_init 37 = .ok (.aload_n 0, 1) := by decide +kernel
theorem dX4_init_38 : decode cX4_init 38 = .ok (.new 22, 3) := by decide +kernel
theorem dX4_init_41 : decode cX4_init 41 = .ok (.dup, 1) := by decide +kernel
theorem dX4_init_42 : decode cX4_init 42 = .ok (.invokespecial 24, 3) := by decide +kernel
theorem dX4_init_45 : decode cX4_init 45 = .ok (.putfield 25, 3) := by decide +kernel
theorem dX4_init_48 : decode cX4_init 48 = .ok (.aload_n 0, 1) := by decide +kernel
theorem dX4_init_49 : decode cX4_init 49 = .ok (.bipush 24, 2) := by decide +kernel
theorem dX4_init_51 : decode cX4_init 51 = .ok (.bipush 24, 2) := by decide +kernel
theorem dX4_init_53 : decode cX4_init 53 = .ok (.multianewarray 29 2, 4) := by decide +kernel
theorem dX4_init_57 : decode cX4_init 57 = .ok (.putfield 31, 3) := by decide +kernel
theorem dX4_init_60 : decode cX4_init 60 = .ok (.aload_n 0, 1) := by decide +kernel
theorem dX4_init_61 : decode cX4_init 61 = .ok (.bipush 6, 2) := by decide +kernel
theorem dX4_init_63 : decode cX4_init 63 = .ok (.bipush 8, 2) := by decide +kernel
theorem dX4_init_65 : decode cX4_init 65 = .ok (.multianewarray 29 2, 4) := by decide +kernel
theorem dX4_init_69 : decode cX4_init 69 = .ok (.putfield 34, 3) := by decide +kernel
theorem dX4_init_72 : decode cX4_init 72 = .ok (.aload_n 0, 1) := by decide +kernel
theorem dX4_init_73 : decode cX4_init 73 = .ok (.bipush 8, 2) := by decide +kernel
theorem dX4_init_75 : decode cX4_init 75 = .ok (.newarray .boolean, 2) := by decide +kernel
theorem dX4_init_77 : decode cX4_init 77 = .ok (.putfield 37, 3) := by decide +kernel
theorem dX4_init_80 : decode cX4_init 80 = .ok (.aload_n 0, 1) := by decide +kernel
theorem dX4_init_81 : decode cX4_init 81 = .ok (.iconst 0, 1) := by decide +kernel
theorem dX4_init_82 : decode cX4_init 82 = .ok (.putfield 41, 3) := by decide +kernel
theorem dX4_init_85 : decode cX4_init 85 = .ok (.return_, 1) := by decide +kernel
def tabR_X4_init : List (Nat × RSem) := [(0, rp_al 0 1), (1, rp_oinit 4), (4, rp_al 0 5), (5, rp_new 1 1 [.int 0, .null, .int 0] 8), (8, rp_dup 9), (9, rp_callI rs_Jx4a65c_init_da8c8 1 0 12), (12, rp_pf 6 0 (.object "java/util/ArrayList") 15), (15, rp_al 0 16), (16, rp_new 1 1 [.int 0, .null, .int 0] 19), (19, rp_dup 20), (20, rp_callI rs_Jx4a65c_init_da8c8 1 0 23), (23, rp_pf 6 1 (.object "java/util/ArrayList") 26), (26, rp_al 0 27), (27, rp_new 1 1 [.int 0, .null, .int 0] 30), (30, rp_dup 31), (31, rp_callI rs_Jx4a65c_init_da8c8 1 0 34), (34, rp_pf 6 2 (.object "java/util/ArrayList") 37), (37, rp_al 0 38), (38, rp_new 3 1 [.null] 41), (41, rp_dup 42), (42, rp_callI rs_X1_init 1 26 45), (45, rp_pf 6 3 (.object "VowCourt$Lines") 48), (48, rp_al 0 49), (49, rp_ic 24 51), (51, rp_ic 24 53), (53, rp_mna 24 24 25 57), (57, rp_pf 6 4 (.array (.array .int)) 60), (60, rp_al 0 61), (61, rp_ic 6 63), (63, rp_ic 8 65), (65, rp_mna 6 8 3 69), (69, rp_pf 6 5 (.array (.array .int)) 72), (72, rp_al 0 73), (73, rp_ic 8 75), (75, rp_newa 1 8 1 77), (77, rp_pf 6 6 (.array .boolean) 80), (80, rp_al 0 81), (81, rp_ic 0 82), (82, rp_pf 6 7 .int 85), (85, rp_vret)]
set_option maxRecDepth 20000 in
theorem tokR_X4_init : ∀ q ∈ tabR_X4_init, RSnd true RX4 cX4_init 1 4 70 none q.1 q.2 := by
  unfold tabR_X4_init
  refine rcons (rk_aload_n dX4_init_0 rfl rfl) ?_
  refine rcons (rk_oinit w_52 (by decide) dX4_init_1 rfl) ?_
  refine rcons (rk_aload_n dX4_init_4 rfl rfl) ?_
  refine rcons (rk_new (C := RJx4a65c) (T := TJx4a65c) (n := 3) tyJx4a65c rfl in_Jx4a65c tyJx4a65c_ok (by intro j hj; match j, hj with | 0, _ => rfl | 1, _ => rfl | 2, _ => rfl) w_55 w_56 w_23 (by decide) (by decide) dX4_init_5 rfl) ?_
  refine rcons (rk_dup dX4_init_8 rfl) ?_
  refine rcons (rk_invokeinit R_Jx4a65c_init_da8c8 w_57 w_58 w_23 w_59 rfl ⟨by decide, by decide, by decide +kernel⟩ (by decide) (by decide) dX4_init_9 rfl) ?_
  refine rcons (rk_putfieldF (C := RX4) (T := TX4) (n := 8) tyX4 (.object "java/util/ArrayList") rfl in_X4 tyX4_ok nmX4 (by decide) rfl rfl w_98 rfl dX4_init_12 rfl) ?_
  refine rcons (rk_aload_n dX4_init_15 rfl rfl) ?_
  refine rcons (rk_new (C := RJx4a65c) (T := TJx4a65c) (n := 3) tyJx4a65c rfl in_Jx4a65c tyJx4a65c_ok (by intro j hj; match j, hj with | 0, _ => rfl | 1, _ => rfl | 2, _ => rfl) w_55 w_56 w_23 (by decide) (by decide) dX4_init_16 rfl) ?_
  refine rcons (rk_dup dX4_init_19 rfl) ?_
  refine rcons (rk_invokeinit R_Jx4a65c_init_da8c8 w_57 w_58 w_23 w_59 rfl ⟨by decide, by decide, by decide +kernel⟩ (by decide) (by decide) dX4_init_20 rfl) ?_
  refine rcons (rk_putfieldF (C := RX4) (T := TX4) (n := 8) tyX4 (.object "java/util/ArrayList") rfl in_X4 tyX4_ok nmX4 (by decide) rfl rfl w_99 rfl dX4_init_23 rfl) ?_
  refine rcons (rk_aload_n dX4_init_26 rfl rfl) ?_
  refine rcons (rk_new (C := RJx4a65c) (T := TJx4a65c) (n := 3) tyJx4a65c rfl in_Jx4a65c tyJx4a65c_ok (by intro j hj; match j, hj with | 0, _ => rfl | 1, _ => rfl | 2, _ => rfl) w_55 w_56 w_23 (by decide) (by decide) dX4_init_27 rfl) ?_
  refine rcons (rk_dup dX4_init_30 rfl) ?_
  refine rcons (rk_invokeinit R_Jx4a65c_init_da8c8 w_57 w_58 w_23 w_59 rfl ⟨by decide, by decide, by decide +kernel⟩ (by decide) (by decide) dX4_init_31 rfl) ?_
  refine rcons (rk_putfieldF (C := RX4) (T := TX4) (n := 8) tyX4 (.object "java/util/ArrayList") rfl in_X4 tyX4_ok nmX4 (by decide) rfl rfl w_100 rfl dX4_init_34 rfl) ?_
  refine rcons (rk_aload_n dX4_init_37 rfl rfl) ?_
  refine rcons (rk_new (C := RX1) (T := TX1) (n := 1) tyX1 rfl in_X1 tyX1_ok (by intro j hj; match j, hj with | 0, _ => rfl) w_81 w_82 w_24 (by decide) (by decide) dX4_init_38 rfl) ?_
  refine rcons (rk_dup dX4_init_41 rfl) ?_
  refine rcons (rk_invokeinit R_X1_init w_83 w_84 w_24 w_85 rfl ⟨by decide, by decide, by decide +kernel⟩ (by decide) (by decide) dX4_init_42 rfl) ?_
  refine rcons (rk_putfieldF (C := RX4) (T := TX4) (n := 8) tyX4 (.object "VowCourt$Lines") rfl in_X4 tyX4_ok nmX4 (by decide) rfl rfl w_101 rfl dX4_init_45 rfl) ?_
  refine rcons (rk_aload_n dX4_init_48 rfl rfl) ?_
  refine rcons (rk_bipush dX4_init_49 rfl rfl) ?_
  refine rcons (rk_bipush dX4_init_51 rfl rfl) ?_
  refine rcons (rk_mna w_97 gs_aoa w_96 (by decide) (by decide) (by decide) (by decide) (by decide) dX4_init_53 rfl) ?_
  refine rcons (rk_putfieldF (C := RX4) (T := TX4) (n := 8) tyX4 (.array (.array .int)) rfl in_X4 tyX4_ok nmX4 (by decide) rfl rfl w_102 rfl dX4_init_57 rfl) ?_
  refine rcons (rk_aload_n dX4_init_60 rfl rfl) ?_
  refine rcons (rk_bipush dX4_init_61 rfl rfl) ?_
  refine rcons (rk_bipush dX4_init_63 rfl rfl) ?_
  refine rcons (rk_mna w_97 gs_aoa w_96 (by decide) (by decide) (by decide) (by decide) (by decide) dX4_init_65 rfl) ?_
  refine rcons (rk_putfieldF (C := RX4) (T := TX4) (n := 8) tyX4 (.array (.array .int)) rfl in_X4 tyX4_ok nmX4 (by decide) rfl rfl w_103 rfl dX4_init_69 rfl) ?_
  refine rcons (rk_aload_n dX4_init_72 rfl rfl) ?_
  refine rcons (rk_bipush dX4_init_73 rfl rfl) ?_
  refine rcons (rk_newarray (ty := .boolean) rfl (fun _ => rfl) (fun _ => rfl) w_123 (by decide) (by decide) (by decide) dX4_init_75 rfl) ?_
  refine rcons (rk_putfieldF (C := RX4) (T := TX4) (n := 8) tyX4 (.array .boolean) rfl in_X4 tyX4_ok nmX4 (by decide) rfl rfl w_104 rfl dX4_init_77 rfl) ?_
  refine rcons (rk_aload_n dX4_init_80 rfl rfl) ?_
  refine rcons (rk_iconst dX4_init_81 rfl rfl) ?_
  refine rcons (rk_putfield (C := RX4) (T := TX4) (n := 8) tyX4 .int rfl in_X4 tyX4_ok nmX4 (by decide) rfl w_105 rfl dX4_init_82 rfl) ?_
  refine rcons (rk_vreturn rfl dX4_init_85) ?_
  exact fun _ h => nomatch h
def lsE (g : GPm) : va_E := .inr (1, [.int 0, .ref (g.2.1 73000), .int 0])
def rs_X4_init : RSpc := fun g av w N => match av, w with
  | [.inl (.inr (_, a))], [(b, .inr (6, [_, _, _, _, _, _, _, .int _]))] => a = b ∧ ∀ (q0 q1 q2 ql qs qd qf qe : Nat) (rs rd rf : Nat → Nat), N none ([(b, .inr (6, [.ref q0, .ref q1, .ref q2, .ref ql, .ref qd, .ref qf, .ref qe, .int 0])), (q0, lsE g), (q1, lsE g), (q2, lsE g), (ql, .inr (3, [.ref qs])), (qs, rwE g 24 rs)] ++ lnR g rs 24 ++ ((qd, rwE g 24 rd) :: zR g 24 24 rd) ++ ((qf, rwE g 6 rf) :: zR g 6 8 rf) ++ [(qe, .inl (g.2.1 1, (8, .inl (fun _ => 0))))])
  | _, _ => False
set_option maxRecDepth 20000 in
set_option maxHeartbeats 4000000 in
theorem R_X4_init : RMet yX4_init cX4_init 1 none 4 70 rs_X4_init := by
  refine RMet.mk (own := RX4) true (fun _ => rfl) (by decide) rfl [0] rfl tokR_X4_init 300 ?_
  intro g av w N h
  unfold rs_X4_init at h
  split at h
  · rename_i x a b v
    obtain ⟨rfl, h⟩ := h
    refine ⟨[], ?_, an⟩
    refine ⟨by (first | decide | exact Nat.le_of_ble_eq_true rfl), by (first | decide | exact Nat.le_of_ble_eq_true rfl), fun q0 => ⟨by (first | decide | exact Nat.le_of_ble_eq_true rfl), by (first | decide | exact Nat.le_of_ble_eq_true rfl), 1, rfl, rfl, ?_⟩⟩
    refine ⟨rfl, rfl, 0, _, rfl, Nat.le_of_ble_eq_true rfl, by (first | decide | exact Nat.le_of_ble_eq_true rfl), fun q1 => ⟨by (first | decide | exact Nat.le_of_ble_eq_true rfl), by (first | decide | exact Nat.le_of_ble_eq_true rfl), 2, rfl, rfl, ?_⟩⟩
    refine ⟨rfl, rfl, 0, _, rfl, Nat.le_of_ble_eq_true rfl, by (first | decide | exact Nat.le_of_ble_eq_true rfl), fun q2 => ⟨by (first | decide | exact Nat.le_of_ble_eq_true rfl), by (first | decide | exact Nat.le_of_ble_eq_true rfl), 3, rfl, rfl, ?_⟩⟩
    refine ⟨rfl, rfl, 0, _, rfl, Nat.le_of_ble_eq_true rfl, by (first | decide | exact Nat.le_of_ble_eq_true rfl), fun ql => ⟨by (first | decide | exact Nat.le_of_ble_eq_true rfl), by (first | decide | exact Nat.le_of_ble_eq_true rfl), 4, rfl, fun qs rs => ⟨rfl, ?_⟩⟩⟩
    refine ⟨rfl, rfl, 0, _, rfl, Nat.le_of_ble_eq_true rfl, by (first | decide | exact Nat.le_of_ble_eq_true rfl), by (first | decide | exact Nat.le_of_ble_eq_true rfl), rfl, rfl, by (first | decide | exact Nat.le_of_ble_eq_true rfl), fun qd rd => ?_⟩
    refine ⟨rfl, rfl, 0, _, rfl, Nat.le_of_ble_eq_true rfl, by (first | decide | exact Nat.le_of_ble_eq_true rfl), by (first | decide | exact Nat.le_of_ble_eq_true rfl), rfl, rfl, by (first | decide | exact Nat.le_of_ble_eq_true rfl), fun qf rf => ?_⟩
    refine ⟨rfl, rfl, 0, _, rfl, Nat.le_of_ble_eq_true rfl, by (first | decide | exact Nat.le_of_ble_eq_true rfl), rfl, by (first | decide | exact Nat.le_of_ble_eq_true rfl), fun qe => ?_⟩
    refine ⟨rfl, rfl, 0, _, rfl, Nat.le_of_ble_eq_true rfl, rfl, rfl, 0, _, rfl, Nat.le_of_ble_eq_true rfl, by (first | decide | exact Nat.le_of_ble_eq_true rfl), ?_⟩
    exact h q0 q1 q2 ql qs qd qf qe rs rd rf
  · exact h.elim

