/-! Lines -/
theorem w_24 : (.initialized "VowCourt$Lines" : Cond) ∈ TB := TB_mem (List.mem_of_getElem? (i := 24) (by decide +kernel)) rfl
theorem w_32 : (.initialized "java/lang/Math" : Cond) ∈ TB := TB_mem (List.mem_of_getElem? (i := 32) (by decide +kernel)) rfl
theorem w_92 : (.fieldLink "VowCourt$Lines" 11 "VowCourt$Lines" "steps" "[[I" : Cond) ∈ TB := TB_mem (List.mem_of_getElem? (i := 92) (by decide +kernel)) rfl
theorem w_263 : (.methodLink "VowCourt$Lines" 22 ⟨"VowCourt$Lines", "stepsBetween", "(II)I"⟩ : Cond) ∈ TB := TB_mem (List.mem_of_getElem? (i := 263) (by decide +kernel)) rfl
theorem w_264 : (.instanceMethod ⟨"VowCourt$Lines", "stepsBetween", "(II)I"⟩ : Cond) ∈ TB := TB_mem (List.mem_of_getElem? (i := 264) (by decide +kernel)) rfl
theorem w_265 : (.selects "VowCourt$Lines" ⟨"VowCourt$Lines", "stepsBetween", "(II)I"⟩ ⟨"VowCourt$Lines", "stepsBetween", "(II)I"⟩ : Cond) ∈ TB := TB_mem (List.mem_of_getElem? (i := 265) (by decide +kernel)) rfl
theorem w_266 : (.code yX1_stepsBetween cX1_stepsBetween 3 (some .int) : Cond) ∈ TB := TB_mem (List.mem_of_getElem? (i := 266) (by decide +kernel)) rfl
theorem w_267 : (.methodLink "VowCourt$Lines" 26 Lib.Math.min.name : Cond) ∈ TB := TB_mem (List.mem_of_getElem? (i := 267) (by decide +kernel)) rfl
theorem w_268 : (.static Lib.Math.min.name : Cond) ∈ TB := TB_mem (List.mem_of_getElem? (i := 268) (by decide +kernel)) rfl
theorem w_269 : (.code Lib.Math.min.name Lib.Math.min.code 2 (some .int) : Cond) ∈ TB := TB_mem (List.mem_of_getElem? (i := 269) (by decide +kernel)) rfl
theorem w_430 : (.methodLink "VowCourt$Lines" 31 ⟨"VowCourt$Lines", "degree", "(II)I"⟩ : Cond) ∈ TB := TB_mem (List.mem_of_getElem? (i := 430) (by decide +kernel)) rfl
theorem w_431 : (.instanceMethod ⟨"VowCourt$Lines", "degree", "(II)I"⟩ : Cond) ∈ TB := TB_mem (List.mem_of_getElem? (i := 431) (by decide +kernel)) rfl
theorem w_432 : (.selects "VowCourt$Lines" ⟨"VowCourt$Lines", "degree", "(II)I"⟩ ⟨"VowCourt$Lines", "degree", "(II)I"⟩ : Cond) ∈ TB := TB_mem (List.mem_of_getElem? (i := 432) (by decide +kernel)) rfl
theorem w_433 : (.code yX1_degree cX1_degree 5 (some .int) : Cond) ∈ TB := TB_mem (List.mem_of_getElem? (i := 433) (by decide +kernel)) rfl
theorem dX1_stepsBetween_0 : decode cX1_stepsBetween 0 = .ok (.iload_n 1, 1) := by decide +kernel
theorem dX1_stepsBetween_1 : decode cX1_stepsBetween 1 = .ok (.iconst (-1), 1) := by decide +kernel
theorem dX1_stepsBetween_2 : decode cX1_stepsBetween 2 = .ok (.if_icmp .ne 8, 3) := by decide +kernel
theorem dX1_stepsBetween_5 : decode cX1_stepsBetween 5 = .ok (.bipush 100, 2) := by decide +kernel
theorem dX1_stepsBetween_7 : decode cX1_stepsBetween 7 = .ok (.goto 11, 3) := by decide +kernel
theorem dX1_stepsBetween_10 : decode cX1_stepsBetween 10 = .ok (.aload_n 0, 1) := by decide +kernel
theorem dX1_stepsBetween_11 : decode cX1_stepsBetween 11 = .ok (.getfield 11, 3) := by decide +kernel
theorem dX1_stepsBetween_14 : decode cX1_stepsBetween 14 = .ok (.iload_n 1, 1) := by decide +kernel
theorem dX1_stepsBetween_15 : decode cX1_stepsBetween 15 = .ok (.aaload, 1) := by decide +kernel
theorem dX1_stepsBetween_16 : decode cX1_stepsBetween 16 = .ok (.iload_n 2, 1) := by decide +kernel
theorem dX1_stepsBetween_17 : decode cX1_stepsBetween 17 = .ok (.iaload, 1) := by decide +kernel
theorem dX1_stepsBetween_18 : decode cX1_stepsBetween 18 = .ok (.ireturn, 1) := by decide +kernel
def tab_X1_stepsBetween : List (Nat × Sem) := [(0, op_il 1 1), (1, op_ic (-1) 2), (2, op_cmp (fun x y => ¬ x = y) 10 5), (5, op_ic 100 7), (7, op_go 18), (10, op_al 0 11), (11, op_gf 3 0 14), (14, op_il 1 15), (15, op_aald 16), (16, op_il 2 17), (17, op_iald 18), (18, op_iret)]
set_option maxRecDepth 20000 in
theorem tok_X1_stepsBetween : ∀ q ∈ tab_X1_stepsBetween, Snd RX1 cX1_stepsBetween 3 0 0 (some .int) q.1 q.2 := by
  unfold tab_X1_stepsBetween
  refine tcons (ok_iload_n dX1_stepsBetween_0 rfl rfl) ?_
  refine tcons (ok_iconst dX1_stepsBetween_1 rfl rfl) ?_
  refine tcons (ok_icmp_ne dX1_stepsBetween_2 rfl rfl) ?_
  refine tcons (ok_bipush dX1_stepsBetween_5 rfl rfl) ?_
  refine tcons (ok_goto dX1_stepsBetween_7 rfl) ?_
  refine tcons (ok_aload_n dX1_stepsBetween_10 rfl rfl) ?_
  refine tcons (ok_getfield (C := RX1) (T := TX1) (n := 1) rfl in_X1 (by decide) w_92 dX1_stepsBetween_11 rfl) ?_
  refine tcons (ok_iload_n dX1_stepsBetween_14 rfl rfl) ?_
  refine tcons (ok_aaload dX1_stepsBetween_15 rfl) ?_
  refine tcons (ok_iload_n dX1_stepsBetween_16 rfl rfl) ?_
  refine tcons (ok_iaload dX1_stepsBetween_17 rfl) ?_
  refine tcons (ok_ireturn rfl dX1_stepsBetween_18) ?_
  exact fun _ h => nomatch h
def sbC (s : Sg) (fa : Int32) (k : Nat) : Int32 := if fa = -1 then 100 else s.2.1 6 (cl fa) k
def sp_X1_stepsBetween : Spc := fun av s N _ => match av with
  | [.inl (.inr (4, 0)), .inl (.inl a), .inl (.inl b)] => (¬ a = -1 → Ib a 24) ∧ Ib b 24 ∧ N (some (aI (sbC s a (cl b)))) s
  | _ => False
set_option maxRecDepth 20000 in
set_option maxHeartbeats 2000000 in
theorem M_X1_stepsBetween : AMet yX1_stepsBetween cX1_stepsBetween 3 (some .int) 0 0 sp_X1_stepsBetween := by
  refine AMet.mk (own := RX1) (by decide) rfl [0, 1, 2] rfl tok_X1_stepsBetween 200 ?_
  intro av s0 N X h
  unfold sp_X1_stepsBetween at h
  split at h
  rotate_left
  · exact h.elim
  refine ⟨fun _ => none, ?_, fun pc P hP => nomatch hP⟩
  repeat' (first | apply And.intro | (intro q; exact absurd q (by decide)) | intro _)
  all_goals first | decide | (exact (rfl : (0 : Nat) = 0)) | (exact Nat.le_of_ble_eq_true rfl) | (exact h.2.1) | (exact h.1 (by assumption)) | (have hv := of_eq_true (h.1 (by assumption)); exact Nat.not_le.mp fun q => hv (Or.inr q)) | (simp_all [-Int32.not_lt, -Int32.not_le, sbC]; done) | (simp_all [-Int32.not_lt, -Int32.not_le, ← Int32.not_le, sbC]; done) | (simp_all [sbC]; done)
def mmn (x y : Int32) : Int32 := if y < x then y else x
def stG (s : Sg) (t i n : Nat) (f : Nat → Int32) : Sg := (s.1, fun a b c => if a = t ∧ b = i ∧ c < n then f c else s.2.1 a b c, s.2.2)
theorem stG_get {s : Sg} {t i n a b c : Nat} {f : Nat → Int32} : (stG s t i n f).2.1 a b c = if a = t ∧ b = i ∧ c < n then f c else s.2.1 a b c := rfl
theorem stG_0 {s : Sg} {t i : Nat} {f : Nat → Int32} : stG s t i 0 f = s := Sg_ext rfl (fun a b c => by rw [stG_get, if_neg (by omega)]) rfl
theorem stG_s {s : Sg} {t i n : Nat} {f : Nat → Int32} {v : Int32} (hv : v = f n) : stS (stG s t i n f) t i n v = stG s t i (n + 1) f := by
  refine Sg_ext rfl (fun a b c => ?_) rfl
  rw [stS_get, stG_get, stG_get]
  by_cases e : a = t ∧ b = i
  · obtain ⟨rfl, rfl⟩ := e
    by_cases e2 : c = n
    · rw [if_pos ⟨rfl, rfl, e2⟩, if_pos ⟨rfl, rfl, by omega⟩, hv, e2]
    · rw [if_neg (by omega)]
      by_cases e3 : c < n
      · rw [if_pos ⟨rfl, rfl, e3⟩, if_pos ⟨rfl, rfl, by omega⟩]
      · rw [if_neg (by omega), if_neg (by omega)]
  · rw [if_neg (by omega), if_neg (by omega), if_neg (by omega)]
def evC (s : Sg) (fa mo : Int32) (k : Nat) : Int32 := mmn 100 (mmn (sbC s fa k) (sbC s mo k) + 1)
theorem dX1_enter_0 : decode cX1_enter 0 = .ok (.iconst 0, 1) := by decide +kernel
theorem dX1_enter_1 : decode cX1_enter 1 = .ok (.istore 4, 2) := by decide +kernel
theorem dX1_enter_3 : decode cX1_enter 3 = .ok (.iload 4, 2) := by decide +kernel
theorem dX1_enter_5 : decode cX1_enter 5 = .ok (.iload_n 1, 1) := by decide +kernel
theorem dX1_enter_6 : decode cX1_enter 6 = .ok (.if_icmp .ge 46, 3) := by decide +kernel
theorem dX1_enter_9 : decode cX1_enter 9 = .ok (.aload_n 0, 1) := by decide +kernel
theorem dX1_enter_10 : decode cX1_enter 10 = .ok (.iload_n 2, 1) := by decide +kernel
theorem dX1_enter_11 : decode cX1_enter 11 = .ok (.iload 4, 2) := by decide +kernel
theorem dX1_enter_13 : decode cX1_enter 13 = .ok (.invokevirtual 22, 3) := by decide +kernel
theorem dX1_enter_16 : decode cX1_enter 16 = .ok (.aload_n 0, 1) := by decide +kernel
theorem dX1_enter_17 : decode cX1_enter 17 = .ok (.iload_n 3, 1) := by decide +kernel
theorem dX1_enter_18 : decode cX1_enter 18 = .ok (.iload 4, 2) := by decide +kernel
theorem dX1_enter_20 : decode cX1_enter 20 = .ok (.invokevirtual 22, 3) := by decide +kernel
theorem dX1_enter_23 : decode cX1_enter 23 = .ok (.invokestatic 26, 3) := by decide +kernel
theorem dX1_enter_26 : decode cX1_enter 26 = .ok (.istore 5, 2) := by decide +kernel
theorem dX1_enter_28 : decode cX1_enter 28 = .ok (.aload_n 0, 1) := by decide +kernel
theorem dX1_enter_29 : decode cX1_enter 29 = .ok (.getfield 11, 3) := by decide +kernel
theorem dX1_enter_32 : decode cX1_enter 32 = .ok (.iload_n 1, 1) := by decide +kernel
theorem dX1_enter_33 : decode cX1_enter 33 = .ok (.aaload, 1) := by decide +kernel
theorem dX1_enter_34 : decode cX1_enter 34 = .ok (.iload 4, 2) := by decide +kernel
theorem dX1_enter_36 : decode cX1_enter 36 = .ok (.bipush 100, 2) := by decide +kernel
theorem dX1_enter_38 : decode cX1_enter 38 = .ok (.iload 5, 2) := by decide +kernel
theorem dX1_enter_40 : decode cX1_enter 40 = .ok (.iconst 1, 1) := by decide +kernel
theorem dX1_enter_41 : decode cX1_enter 41 = .ok (.iadd, 1) := by decide +kernel
theorem dX1_enter_42 : decode cX1_enter 42 = .ok (.invokestatic 26, 3) := by decide +kernel
theorem dX1_enter_45 : decode cX1_enter 45 = .ok (.iastore, 1) := by decide +kernel
theorem dX1_enter_46 : decode cX1_enter 46 = .ok (.iinc 4 1, 3) := by decide +kernel
theorem dX1_enter_49 : decode cX1_enter 49 = .ok (.goto (-46), 3) := by decide +kernel
theorem dX1_enter_52 : decode cX1_enter 52 = .ok (.aload_n 0, 1) := by decide +kernel
theorem dX1_enter_53 : decode cX1_enter 53 = .ok (.getfield 11, 3) := by decide +kernel
theorem dX1_enter_56 : decode cX1_enter 56 = .ok (.iload_n 1, 1) := by decide +kernel
theorem dX1_enter_57 : decode cX1_enter 57 = .ok (.aaload, 1) := by decide +kernel
theorem dX1_enter_58 : decode cX1_enter 58 = .ok (.iload_n 1, 1) := by decide +kernel
theorem dX1_enter_59 : decode cX1_enter 59 = .ok (.iconst 0, 1) := by decide +kernel
theorem dX1_enter_60 : decode cX1_enter 60 = .ok (.iastore, 1) := by decide +kernel
theorem dX1_enter_61 : decode cX1_enter 61 = .ok (.return_, 1) := by decide +kernel
def tab_X1_enter : List (Nat × Sem) := [(0, op_ic 0 1), (1, op_is 4 3), (3, op_il 4 5), (5, op_il 1 6), (6, op_cmp (fun x y => y ≤ x) 52 9), (9, op_al 0 10), (10, op_il 2 11), (11, op_il 4 13), (13, op_callV 3 sp_X1_stepsBetween 3 0 16), (16, op_al 0 17), (17, op_il 3 18), (18, op_il 4 20), (20, op_callV 3 sp_X1_stepsBetween 3 0 23), (23, op_mm (fun x y => if y < x then y else x) 26), (26, op_is 5 28), (28, op_al 0 29), (29, op_gf 3 0 32), (32, op_il 1 33), (33, op_aald 34), (34, op_il 4 36), (36, op_ic 100 38), (38, op_il 5 40), (40, op_ic 1 41), (41, op_bin (fun x y => x + y) 42), (42, op_mm (fun x y => if y < x then y else x) 45), (45, op_iast 46), (46, op_inc 4 1 49), (49, op_go 3), (52, op_al 0 53), (53, op_gf 3 0 56), (56, op_il 1 57), (57, op_aald 58), (58, op_il 1 59), (59, op_ic 0 60), (60, op_iast 61), (61, op_vret)]
set_option maxRecDepth 20000 in
theorem tok_X1_enter : ∀ q ∈ tab_X1_enter, Snd RX1 cX1_enter 6 1 0 none q.1 q.2 := by
  unfold tab_X1_enter
  refine tcons (ok_iconst dX1_enter_0 rfl rfl) ?_
  refine tcons (ok_istore dX1_enter_1 (by decide) rfl) ?_
  refine tcons (ok_iload dX1_enter_3 rfl) ?_
  refine tcons (ok_iload_n dX1_enter_5 rfl rfl) ?_
  refine tcons (ok_icmp_ge dX1_enter_6 rfl rfl) ?_
  refine tcons (ok_aload_n dX1_enter_9 rfl rfl) ?_
  refine tcons (ok_iload_n dX1_enter_10 rfl rfl) ?_
  refine tcons (ok_iload dX1_enter_11 rfl) ?_
  refine tcons (ok_invokevirtual M_X1_stepsBetween (C := RX1) (T := TX1) (nf := 1) rfl w_263 w_264 w_265 w_24 w_266 ⟨rfl, by decide, by decide, by decide +kernel⟩ (by decide) (by decide) dX1_enter_13 rfl) ?_
  refine tcons (ok_aload_n dX1_enter_16 rfl rfl) ?_
  refine tcons (ok_iload_n dX1_enter_17 rfl rfl) ?_
  refine tcons (ok_iload dX1_enter_18 rfl) ?_
  refine tcons (ok_invokevirtual M_X1_stepsBetween (C := RX1) (T := TX1) (nf := 1) rfl w_263 w_264 w_265 w_24 w_266 ⟨rfl, by decide, by decide, by decide +kernel⟩ (by decide) (by decide) dX1_enter_20 rfl) ?_
  refine tcons (ok_mmin w_267 w_268 w_32 w_269 (by decide) dX1_enter_23 rfl) ?_
  refine tcons (ok_istore dX1_enter_26 (by decide) rfl) ?_
  refine tcons (ok_aload_n dX1_enter_28 rfl rfl) ?_
  refine tcons (ok_getfield (C := RX1) (T := TX1) (n := 1) rfl in_X1 (by decide) w_92 dX1_enter_29 rfl) ?_
  refine tcons (ok_iload_n dX1_enter_32 rfl rfl) ?_
  refine tcons (ok_aaload dX1_enter_33 rfl) ?_
  refine tcons (ok_iload dX1_enter_34 rfl) ?_
  refine tcons (ok_bipush dX1_enter_36 rfl rfl) ?_
  refine tcons (ok_iload dX1_enter_38 rfl) ?_
  refine tcons (ok_iconst dX1_enter_40 rfl rfl) ?_
  refine tcons (ok_iadd dX1_enter_41 rfl) ?_
  refine tcons (ok_mmin w_267 w_268 w_32 w_269 (by decide) dX1_enter_42 rfl) ?_
  refine tcons (ok_iastore dX1_enter_45 rfl) ?_
  refine tcons (ok_iinc dX1_enter_46 rfl (by decide) rfl) ?_
  refine tcons (ok_goto dX1_enter_49 rfl) ?_
  refine tcons (ok_aload_n dX1_enter_52 rfl rfl) ?_
  refine tcons (ok_getfield (C := RX1) (T := TX1) (n := 1) rfl in_X1 (by decide) w_92 dX1_enter_53 rfl) ?_
  refine tcons (ok_iload_n dX1_enter_56 rfl rfl) ?_
  refine tcons (ok_aaload dX1_enter_57 rfl) ?_
  refine tcons (ok_iload_n dX1_enter_58 rfl rfl) ?_
  refine tcons (ok_iconst dX1_enter_59 rfl rfl) ?_
  refine tcons (ok_iastore dX1_enter_60 rfl) ?_
  refine tcons (ok_vreturn rfl dX1_enter_61) ?_
  exact fun _ h => nomatch h
def enC (s : Sg) (i : Nat) (fa mo : Int32) : Sg := stS (stG s 6 i i (evC s fa mo)) 6 i i 0
def sp_X1_enter : Spc := fun av s N _ => match av with
  | [.inl (.inr (4, 0)), .inl (.inl p), .inl (.inl fa), .inl (.inl mo)] => ∃ i, i < 24 ∧ p = nI i ∧ (fa = -1 ∨ ∃ f, f < i ∧ fa = nI f) ∧ (mo = -1 ∨ ∃ f, f < i ∧ mo = nI f) ∧ N none (enC s i fa mo)
  | _ => False
set_option maxRecDepth 20000 in
set_option maxHeartbeats 2000000 in
theorem M_X1_enter : AMet yX1_enter cX1_enter 6 none 1 0 sp_X1_enter := by
  refine AMet.mc (own := RX1) (by decide) rfl [0, 1, 2, 3, 4, 5] rfl tok_X1_enter 200 ?_
  intro av s0 N X h
  unfold sp_X1_enter at h
  split at h
  rotate_left
  · exact h.elim
  rename_i fa mo
  obtain ⟨i, hi, rfl, hfa, hmo, h⟩ := h
  have ci : (nI i).toNatClampNeg = i := nI_clamp (by omega)
  refine ⟨[(3, fun m u L st s => ∃ k, k ≤ i ∧ m = i - k ∧ u = 0 ∧ L = [(0, .inr (4, 0)), (1, .inl (nI i)), (2, .inl fa), (3, .inl mo), (4, .inl (nI k))] ∧ st = [] ∧ s = stG s0 6 i k (evC s0 fa mo))], ?_, ac ?_ an⟩
  · repeat' (first | apply And.intro | (intro q; exact absurd q (by decide)) | intro _)
    all_goals first | (exact (rfl : (0 : Nat) = 0)) | decide | (exact Nat.le_of_ble_eq_true rfl) | (exact ⟨i, 5, trivial, 0, Nat.zero_le _, rfl, rfl, rfl, rfl, stG_0.symm⟩)
  · rintro m u L st s ⟨k, hk, rfl, rfl, rfl, rfl, rfl⟩
    by_cases hkn : k < i
    · have hle : ¬ nI i ≤ nI k := fun q => by have := (nIge (N := 30) (by omega) (by omega) (by decide)).mp q; omega
      have ck : (nI k).toNatClampNeg = k := nI_clamp (by omega)
      have b1 : Ib (nI k) 24 := nIb (by omega) (by decide)
      have b2 : Ib (nI i) 24 := nIb (by omega) (by decide)
      have rd : ∀ x, (x = -1 ∨ ∃ f, f < i ∧ x = nI f) → (¬ x = -1 → Ib x 24) ∧ sbC (stG s0 6 i k (evC s0 fa mo)) x (cl (nI k)) = sbC s0 x k := by
        intro x hx
        rcases hx with rfl | ⟨f, hf, rfl⟩
        · exact ⟨fun q => absurd rfl q, rfl⟩
        · refine ⟨fun _ => nIb (by omega) (by decide), ?_⟩
          have hne : ¬ nI f = -1 := fun q => by
            have z := congrArg Int32.toInt q
            rw [nI_toInt (by omega), show (-1 : Int32).toInt = -1 from rfl] at z
            omega
          unfold sbC
          rw [if_neg hne, if_neg hne, show cl (nI f) = f from nI_clamp (by omega), show cl (nI k) = k from ck, stG_get, if_neg (by omega)]
      have r1 := rd fa hfa
      have r2 := rd mo hmo
      have fin : ∀ v, v = evC s0 fa mo k → stS (stG s0 6 i k (evC s0 fa mo)) (5 + 1) (nI i).toNatClampNeg (nI k).toNatClampNeg v = stG s0 6 i (k + 1) (evC s0 fa mo) := fun v hv => by rw [ci, ck]; exact stG_s hv
      have hev : evC s0 fa mo k = mmn 100 (mmn (sbC (stG s0 6 i k (evC s0 fa mo)) fa (cl (nI k))) (sbC (stG s0 6 i k (evC s0 fa mo)) mo (cl (nI k))) + 1) := by rw [r1.2, r2.2]; rfl
      clear h rd
      repeat' (first | apply And.intro | (intro q; exact absurd q (by decide)) | (intro q; exact absurd q hle) | (exact r1.1) | (exact r2.1) | intro _)
      all_goals first | (exact (rfl : (0 : Nat) = 0)) | (with_reducible exact b1) | (with_reducible exact b2) | decide | (exact Nat.le_of_ble_eq_true rfl) | (rw [ci]; exact hi) | (show (nI i).toNatClampNeg < 24; rw [ci]; exact hi) |
        (refine ⟨i - (k + 1), 5, by omega, k + 1, by omega, rfl, rfl, by rw [← nIs]; rfl, rfl, ?_⟩; exact fin _ hev.symm)
    · obtain rfl : k = i := by omega
      have hle : nI k ≤ nI k := nI_le (Nat.le_refl _) (by omega)
      have b2 : Ib (nI k) 24 := nIb (by omega) (by decide)
      have h9 : N none (stS (stG s0 6 k k (evC s0 fa mo)) (5 + 1) (nI k).toNatClampNeg (nI k).toNatClampNeg 0) := by rw [ci]; exact h
      clear h
      repeat' (first | apply And.intro | (intro q; exact absurd q (by decide)) | (intro q; exact absurd hle q) | intro _)
      all_goals first | (exact (rfl : (0 : Nat) = 0)) | (with_reducible exact b2) | decide | (exact Nat.le_of_ble_eq_true rfl) | (show (nI k).toNatClampNeg < 24; rw [ci]; exact hi) | exact h9
def dgR (f h : Nat → Int32) : Nat → Int32
  | 0 => 100
  | k + 1 => mmn (dgR f h k) (f k + h k)
def dgC (s : Sg) (p q : Int32) : Int32 := dgR (s.2.1 6 (cl p)) (s.2.1 6 (cl q)) 24
theorem dX1_degree_0 : decode cX1_degree 0 = .ok (.bipush 100, 2) := by decide +kernel
theorem dX1_degree_2 : decode cX1_degree 2 = .ok (.istore_n 3, 1) := by decide +kernel
theorem dX1_degree_3 : decode cX1_degree 3 = .ok (.iconst 0, 1) := by decide +kernel
theorem dX1_degree_4 : decode cX1_degree 4 = .ok (.istore 4, 2) := by decide +kernel
theorem dX1_degree_6 : decode cX1_degree 6 = .ok (.iload 4, 2) := by decide +kernel
theorem dX1_degree_8 : decode cX1_degree 8 = .ok (.bipush 24, 2) := by decide +kernel
theorem dX1_degree_10 : decode cX1_degree 10 = .ok (.if_icmp .ge 33, 3) := by decide +kernel
theorem dX1_degree_13 : decode cX1_degree 13 = .ok (.iload_n 3, 1) := by decide +kernel
theorem dX1_degree_14 : decode cX1_degree 14 = .ok (.aload_n 0, 1) := by decide +kernel
theorem dX1_degree_15 : decode cX1_degree 15 = .ok (.getfield 11, 3) := by decide +kernel
theorem dX1_degree_18 : decode cX1_degree 18 = .ok (.iload_n 1, 1) := by decide +kernel
theorem dX1_degree_19 : decode cX1_degree 19 = .ok (.aaload, 1) := by decide +kernel
theorem dX1_degree_20 : decode cX1_degree 20 = .ok (.iload 4, 2) := by decide +kernel
theorem dX1_degree_22 : decode cX1_degree 22 = .ok (.iaload, 1) := by decide +kernel
theorem dX1_degree_23 : decode cX1_degree 23 = .ok (.aload_n 0, 1) := by decide +kernel
theorem dX1_degree_24 : decode cX1_degree 24 = .ok (.getfield 11, 3) := by decide +kernel
theorem dX1_degree_27 : decode cX1_degree 27 = .ok (.iload_n 2, 1) := by decide +kernel
theorem dX1_degree_28 : decode cX1_degree 28 = .ok (.aaload, 1) := by decide +kernel
theorem dX1_degree_29 : decode cX1_degree 29 = .ok (.iload 4, 2) := by decide +kernel
theorem dX1_degree_31 : decode cX1_degree 31 = .ok (.iaload, 1) := by decide +kernel
theorem dX1_degree_32 : decode cX1_degree 32 = .ok (.iadd, 1) := by decide +kernel
theorem dX1_degree_33 : decode cX1_degree 33 = .ok (.invokestatic 26, 3) := by decide +kernel
theorem dX1_degree_36 : decode cX1_degree 36 = .ok (.istore_n 3, 1) := by decide +kernel
theorem dX1_degree_37 : decode cX1_degree 37 = .ok (.iinc 4 1, 3) := by decide +kernel
theorem dX1_degree_40 : decode cX1_degree 40 = .ok (.goto (-34), 3) := by decide +kernel
theorem dX1_degree_43 : decode cX1_degree 43 = .ok (.iload_n 3, 1) := by decide +kernel
theorem dX1_degree_44 : decode cX1_degree 44 = .ok (.ireturn, 1) := by decide +kernel
def tab_X1_degree : List (Nat × Sem) := [(0, op_ic 100 2), (2, op_is 3 3), (3, op_ic 0 4), (4, op_is 4 6), (6, op_il 4 8), (8, op_ic 24 10), (10, op_cmp (fun x y => y ≤ x) 43 13), (13, op_il 3 14), (14, op_al 0 15), (15, op_gf 3 0 18), (18, op_il 1 19), (19, op_aald 20), (20, op_il 4 22), (22, op_iald 23), (23, op_al 0 24), (24, op_gf 3 0 27), (27, op_il 2 28), (28, op_aald 29), (29, op_il 4 31), (31, op_iald 32), (32, op_bin (fun x y => x + y) 33), (33, op_mm (fun x y => if y < x then y else x) 36), (36, op_is 3 37), (37, op_inc 4 1 40), (40, op_go 6), (43, op_il 3 44), (44, op_iret)]
set_option maxRecDepth 20000 in
theorem tok_X1_degree : ∀ q ∈ tab_X1_degree, Snd RX1 cX1_degree 5 1 0 (some .int) q.1 q.2 := by
  unfold tab_X1_degree
  refine tcons (ok_bipush dX1_degree_0 rfl rfl) ?_
  refine tcons (ok_istore_n dX1_degree_2 rfl (by decide) rfl) ?_
  refine tcons (ok_iconst dX1_degree_3 rfl rfl) ?_
  refine tcons (ok_istore dX1_degree_4 (by decide) rfl) ?_
  refine tcons (ok_iload dX1_degree_6 rfl) ?_
  refine tcons (ok_bipush dX1_degree_8 rfl rfl) ?_
  refine tcons (ok_icmp_ge dX1_degree_10 rfl rfl) ?_
  refine tcons (ok_iload_n dX1_degree_13 rfl rfl) ?_
  refine tcons (ok_aload_n dX1_degree_14 rfl rfl) ?_
  refine tcons (ok_getfield (C := RX1) (T := TX1) (n := 1) rfl in_X1 (by decide) w_92 dX1_degree_15 rfl) ?_
  refine tcons (ok_iload_n dX1_degree_18 rfl rfl) ?_
  refine tcons (ok_aaload dX1_degree_19 rfl) ?_
  refine tcons (ok_iload dX1_degree_20 rfl) ?_
  refine tcons (ok_iaload dX1_degree_22 rfl) ?_
  refine tcons (ok_aload_n dX1_degree_23 rfl rfl) ?_
  refine tcons (ok_getfield (C := RX1) (T := TX1) (n := 1) rfl in_X1 (by decide) w_92 dX1_degree_24 rfl) ?_
  refine tcons (ok_iload_n dX1_degree_27 rfl rfl) ?_
  refine tcons (ok_aaload dX1_degree_28 rfl) ?_
  refine tcons (ok_iload dX1_degree_29 rfl) ?_
  refine tcons (ok_iaload dX1_degree_31 rfl) ?_
  refine tcons (ok_iadd dX1_degree_32 rfl) ?_
  refine tcons (ok_mmin w_267 w_268 w_32 w_269 (by decide) dX1_degree_33 rfl) ?_
  refine tcons (ok_istore_n dX1_degree_36 rfl (by decide) rfl) ?_
  refine tcons (ok_iinc dX1_degree_37 rfl (by decide) rfl) ?_
  refine tcons (ok_goto dX1_degree_40 rfl) ?_
  refine tcons (ok_iload_n dX1_degree_43 rfl rfl) ?_
  refine tcons (ok_ireturn rfl dX1_degree_44) ?_
  exact fun _ h => nomatch h
def sp_X1_degree : Spc := fun av s N _ => match av with
  | [.inl (.inr (4, 0)), .inl (.inl p), .inl (.inl q)] => Ib p 24 ∧ Ib q 24 ∧ N (some (aI (dgC s p q))) s
  | _ => False
theorem Ib_lt {p : Int32} {n : Nat} (h : Ib p n) : p.toNatClampNeg < n := Nat.not_le.mp fun q => (of_eq_true h) (Or.inr q)
set_option maxRecDepth 20000 in
set_option maxHeartbeats 2000000 in
theorem M_X1_degree : AMet yX1_degree cX1_degree 5 (some .int) 1 0 sp_X1_degree := by
  refine AMet.mc (own := RX1) (by decide) rfl [0, 1, 2, 3, 4] rfl tok_X1_degree 200 ?_
  intro av s0 N X h
  unfold sp_X1_degree at h
  split at h
  rotate_left
  · exact h.elim
  rename_i p q
  obtain ⟨hp, hq, h⟩ := h
  unfold dgC at h
  obtain ⟨f, hf⟩ : ∃ z, z = s0.2.1 6 (cl p) := ⟨_, rfl⟩
  obtain ⟨g, hg⟩ : ∃ z, z = s0.2.1 6 (cl q) := ⟨_, rfl⟩
  rw [← hf, ← hg] at h
  refine ⟨[(6, fun m u L st s => ∃ k, k ≤ 24 ∧ m = 24 - k ∧ u = 0 ∧ L = [(0, .inr (4, 0)), (1, .inl p), (2, .inl q), (3, .inl (dgR f g k)), (4, .inl (nI k))] ∧ st = [] ∧ s = s0)], ?_, ac ?_ an⟩
  · repeat' (first | apply And.intro | (intro q; exact absurd q (by decide)) | intro _)
    all_goals first | (exact (rfl : (0 : Nat) = 0)) | decide | (exact Nat.le_of_ble_eq_true rfl) | (exact ⟨24, 5, trivial, 0, by omega, rfl, rfl, rfl, rfl, rfl⟩)
  · rintro m u L st s ⟨k, hk, rfl, rfl, rfl, rfl, rfl⟩
    by_cases hkn : k < 24
    · have hle : ¬ (24 : Int32) ≤ nI k := fun q => by have := (nIge (a := k) (b := 24) (N := 30) (by omega) (by omega) (by decide)).mp q; omega
      have hb1 : Ib (nI k) 24 := nIb hkn (by decide)
      have e1 : s.2.1 (5 + 1) p.toNatClampNeg (nI k).toNatClampNeg = f k := by rw [nI_clamp (by omega), hf]
      have e2 : s.2.1 (5 + 1) q.toNatClampNeg (nI k).toNatClampNeg = g k := by rw [nI_clamp (by omega), hg]
      have e3 : dgR f g (k + 1) = mmn (dgR f g k) (s.2.1 (5 + 1) p.toNatClampNeg (nI k).toNatClampNeg + s.2.1 (5 + 1) q.toNatClampNeg (nI k).toNatClampNeg) := by rw [e1, e2]; rfl
      clear h hf hg
      repeat' (first | apply And.intro | (intro q; exact absurd q (by decide)) | (intro q; exact absurd q hle) | intro _)
      all_goals first | (exact (rfl : (0 : Nat) = 0)) | (with_reducible exact hb1) | (with_reducible exact hp) | (with_reducible exact hq) | decide | (exact Nat.le_of_ble_eq_true rfl) | (exact Ib_lt hp) | (exact Ib_lt hq) |
        (exact ⟨24 - (k + 1), 5, by omega, k + 1, by omega, rfl, rfl, by rw [← nIs, e3]; rfl, rfl, rfl⟩)
    · obtain rfl : k = 24 := by omega
      have hle : (24 : Int32) ≤ nI 24 := by decide
      repeat' (first | apply And.intro | (intro q; exact absurd q (by decide)) | (intro q; exact absurd hle q) | intro _)
      all_goals first | (exact (rfl : (0 : Nat) = 0)) | decide | (exact Nat.le_of_ble_eq_true rfl) | exact h
def ilC (s : Sg) (p q : Int32) : Prop := ¬ 100 ≤ mmn (s.2.1 6 (cl p) (cl q)) (s.2.1 6 (cl q) (cl p)) ∧ mmn (s.2.1 6 (cl p) (cl q)) (s.2.1 6 (cl q) (cl p)) = dgC s p q
theorem dX1_inLine_0 : decode cX1_inLine 0 = .ok (.aload_n 0, 1) := by decide +kernel
theorem dX1_inLine_1 : decode cX1_inLine 1 = .ok (.getfield 11, 3) := by decide +kernel
theorem dX1_inLine_4 : decode cX1_inLine 4 = .ok (.iload_n 1, 1) := by decide +kernel
theorem dX1_inLine_5 : decode cX1_inLine 5 = .ok (.aaload, 1) := by decide +kernel
theorem dX1_inLine_6 : decode cX1_inLine 6 = .ok (.iload_n 2, 1) := by decide +kernel
theorem dX1_inLine_7 : decode cX1_inLine 7 = .ok (.iaload, 1) := by decide +kernel
theorem dX1_inLine_8 : decode cX1_inLine 8 = .ok (.aload_n 0, 1) := by decide +kernel
theorem dX1_inLine_9 : decode cX1_inLine 9 = .ok (.getfield 11, 3) := by decide +kernel
theorem dX1_inLine_12 : decode cX1_inLine 12 = .ok (.iload_n 2, 1) := by decide +kernel
theorem dX1_inLine_13 : decode cX1_inLine 13 = .ok (.aaload, 1) := by decide +kernel
theorem dX1_inLine_14 : decode cX1_inLine 14 = .ok (.iload_n 1, 1) := by decide +kernel
theorem dX1_inLine_15 : decode cX1_inLine 15 = .ok (.iaload, 1) := by decide +kernel
theorem dX1_inLine_16 : decode cX1_inLine 16 = .ok (.invokestatic 26, 3) := by decide +kernel
theorem dX1_inLine_19 : decode cX1_inLine 19 = .ok (.istore_n 3, 1) := by decide +kernel
theorem dX1_inLine_20 : decode cX1_inLine 20 = .ok (.iload_n 3, 1) := by decide +kernel
theorem dX1_inLine_21 : decode cX1_inLine 21 = .ok (.bipush 100, 2) := by decide +kernel
theorem dX1_inLine_23 : decode cX1_inLine 23 = .ok (.if_icmp .ge 17, 3) := by decide +kernel
theorem dX1_inLine_26 : decode cX1_inLine 26 = .ok (.iload_n 3, 1) := by decide +kernel
theorem dX1_inLine_27 : decode cX1_inLine 27 = .ok (.aload_n 0, 1) := by decide +kernel
theorem dX1_inLine_28 : decode cX1_inLine 28 = .ok (.iload_n 1, 1) := by decide +kernel
theorem dX1_inLine_29 : decode cX1_inLine 29 = .ok (.iload_n 2, 1) := by decide +kernel
theorem dX1_inLine_30 : decode cX1_inLine 30 = .ok (.invokevirtual 31, 3) := by decide +kernel
theorem dX1_inLine_33 : decode cX1_inLine 33 = .ok (.if_icmp .ne 7, 3) := by decide +kernel
theorem dX1_inLine_36 : decode cX1_inLine 36 = .ok (.iconst 1, 1) := by decide +kernel
theorem dX1_inLine_37 : decode cX1_inLine 37 = .ok (.goto 4, 3) := by decide +kernel
theorem dX1_inLine_40 : decode cX1_inLine 40 = .ok (.iconst 0, 1) := by decide +kernel
theorem dX1_inLine_41 : decode cX1_inLine 41 = .ok (.ireturn, 1) := by decide +kernel
def tab_X1_inLine : List (Nat × Sem) := [(0, op_al 0 1), (1, op_gf 3 0 4), (4, op_il 1 5), (5, op_aald 6), (6, op_il 2 7), (7, op_iald 8), (8, op_al 0 9), (9, op_gf 3 0 12), (12, op_il 2 13), (13, op_aald 14), (14, op_il 1 15), (15, op_iald 16), (16, op_mm (fun x y => if y < x then y else x) 19), (19, op_is 3 20), (20, op_il 3 21), (21, op_ic 100 23), (23, op_cmp (fun x y => y ≤ x) 40 26), (26, op_il 3 27), (27, op_al 0 28), (28, op_il 1 29), (29, op_il 2 30), (30, op_callV 3 sp_X1_degree 3 0 33), (33, op_cmp (fun x y => ¬ x = y) 40 36), (36, op_ic 1 37), (37, op_go 41), (40, op_ic 0 41), (41, op_zret)]
set_option maxRecDepth 20000 in
theorem tok_X1_inLine : ∀ q ∈ tab_X1_inLine, Snd RX1 cX1_inLine 4 2 0 (some .boolean) q.1 q.2 := by
  unfold tab_X1_inLine
  refine tcons (ok_aload_n dX1_inLine_0 rfl rfl) ?_
  refine tcons (ok_getfield (C := RX1) (T := TX1) (n := 1) rfl in_X1 (by decide) w_92 dX1_inLine_1 rfl) ?_
  refine tcons (ok_iload_n dX1_inLine_4 rfl rfl) ?_
  refine tcons (ok_aaload dX1_inLine_5 rfl) ?_
  refine tcons (ok_iload_n dX1_inLine_6 rfl rfl) ?_
  refine tcons (ok_iaload dX1_inLine_7 rfl) ?_
  refine tcons (ok_aload_n dX1_inLine_8 rfl rfl) ?_
  refine tcons (ok_getfield (C := RX1) (T := TX1) (n := 1) rfl in_X1 (by decide) w_92 dX1_inLine_9 rfl) ?_
  refine tcons (ok_iload_n dX1_inLine_12 rfl rfl) ?_
  refine tcons (ok_aaload dX1_inLine_13 rfl) ?_
  refine tcons (ok_iload_n dX1_inLine_14 rfl rfl) ?_
  refine tcons (ok_iaload dX1_inLine_15 rfl) ?_
  refine tcons (ok_mmin w_267 w_268 w_32 w_269 (by decide) dX1_inLine_16 rfl) ?_
  refine tcons (ok_istore_n dX1_inLine_19 rfl (by decide) rfl) ?_
  refine tcons (ok_iload_n dX1_inLine_20 rfl rfl) ?_
  refine tcons (ok_bipush dX1_inLine_21 rfl rfl) ?_
  refine tcons (ok_icmp_ge dX1_inLine_23 rfl rfl) ?_
  refine tcons (ok_iload_n dX1_inLine_26 rfl rfl) ?_
  refine tcons (ok_aload_n dX1_inLine_27 rfl rfl) ?_
  refine tcons (ok_iload_n dX1_inLine_28 rfl rfl) ?_
  refine tcons (ok_iload_n dX1_inLine_29 rfl rfl) ?_
  refine tcons (ok_invokevirtual M_X1_degree (C := RX1) (T := TX1) (nf := 1) rfl w_430 w_431 w_432 w_24 w_433 ⟨rfl, by decide, by decide, by decide +kernel⟩ (by decide) (by decide) dX1_inLine_30 rfl) ?_
  refine tcons (ok_icmp_ne dX1_inLine_33 rfl rfl) ?_
  refine tcons (ok_iconst dX1_inLine_36 rfl rfl) ?_
  refine tcons (ok_goto dX1_inLine_37 rfl) ?_
  refine tcons (ok_iconst dX1_inLine_40 rfl rfl) ?_
  refine tcons (ok_zreturn rfl (Or.inl rfl) dX1_inLine_41) ?_
  exact fun _ h => nomatch h
def sp_X1_inLine : Spc := fun av s N _ => match av with
  | [.inl (.inr (4, 0)), .inl (.inl p), .inl (.inl q)] => Ib p 24 ∧ Ib q 24 ∧ br (ilC s p q) N s
  | _ => False
set_option maxRecDepth 20000 in
set_option maxHeartbeats 2000000 in
theorem M_X1_inLine : AMet yX1_inLine cX1_inLine 4 (some .boolean) 2 0 sp_X1_inLine := by
  refine AMet.mk (own := RX1) (by decide) rfl [0, 1, 2, 3] rfl tok_X1_inLine 200 ?_
  intro av s0 N X h
  unfold sp_X1_inLine at h
  split at h
  rotate_left
  · exact h.elim
  refine ⟨fun _ => none, ?_, fun pc P hP => nomatch hP⟩
  repeat' (first | apply And.intro | (intro q; exact absurd q (by decide)) | intro _)
  all_goals first | decide | (exact (rfl : (0 : Nat) = 0)) | (exact Nat.le_of_ble_eq_true rfl) | (with_reducible exact h.1) | (with_reducible exact h.2.1) | (exact Ib_lt h.1) | (exact Ib_lt h.2.1) | (simp_all [-Int32.not_lt, -Int32.not_le, br, ilC, mmn]; done) | (simp_all [-Int32.not_lt, -Int32.not_le, ← Int32.not_le, br, ilC, mmn]; done) | (simp_all [br, ilC, mmn]; done)

