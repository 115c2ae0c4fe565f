/-! Person, Vow, Cause; Arrays.fill -/
theorem w_25 : (.initialized "java/util/Arrays" : Cond) ∈ TB := TB_mem (List.mem_of_getElem? (i := 25) (by decide +kernel)) rfl
theorem w_39 : (.initialized "VowCourt$Cause" : Cond) ∈ TB := TB_mem (List.mem_of_getElem? (i := 39) (by decide +kernel)) rfl
theorem w_90 : (.static ⟨"java/util/Arrays", "fill", "([II)V"⟩ : Cond) ∈ TB := TB_mem (List.mem_of_getElem? (i := 90) (by decide +kernel)) rfl
theorem w_91 : (.code yJ7_fill_53178 cJ7_fill_53178 4 none : Cond) ∈ TB := TB_mem (List.mem_of_getElem? (i := 91) (by decide +kernel)) rfl
theorem w_284 : (.fieldLink "VowCourt$Person" 17 "VowCourt$Person" "banned" "Z" : Cond) ∈ TB := TB_mem (List.mem_of_getElem? (i := 284) (by decide +kernel)) rfl
theorem w_286 : (.fieldLink "VowCourt$Person" 20 "VowCourt$Person" "lives" "Z" : Cond) ∈ TB := TB_mem (List.mem_of_getElem? (i := 286) (by decide +kernel)) rfl
theorem w_466 : (.fieldLink "VowCourt$Vow" 18 "VowCourt$Vow" "one" "I" : Cond) ∈ TB := TB_mem (List.mem_of_getElem? (i := 466) (by decide +kernel)) rfl
theorem w_468 : (.fieldLink "VowCourt$Vow" 21 "VowCourt$Vow" "other" "I" : Cond) ∈ TB := TB_mem (List.mem_of_getElem? (i := 468) (by decide +kernel)) rfl
theorem w_472 : (.fieldLink "VowCourt$Vow" 27 "VowCourt$Vow" "day" "I" : Cond) ∈ TB := TB_mem (List.mem_of_getElem? (i := 472) (by decide +kernel)) rfl
theorem w_478 : (.fieldLink "VowCourt$Vow" 9 "VowCourt$Vow" "status" "I" : Cond) ∈ TB := TB_mem (List.mem_of_getElem? (i := 478) (by decide +kernel)) rfl
theorem w_480 : (.fieldLink "VowCourt$Vow" 15 "VowCourt$Vow" "turned" "I" : Cond) ∈ TB := TB_mem (List.mem_of_getElem? (i := 480) (by decide +kernel)) rfl
theorem w_566 : (.methodLink "VowCourt$Cause" 34 ⟨"java/util/Arrays", "fill", "([II)V"⟩ : Cond) ∈ TB := TB_mem (List.mem_of_getElem? (i := 566) (by decide +kernel)) rfl
theorem w_569 : (.fieldLink "VowCourt$Cause" 31 "VowCourt$Cause" "doubted" "I" : Cond) ∈ TB := TB_mem (List.mem_of_getElem? (i := 569) (by decide +kernel)) rfl
theorem w_571 : (.fieldLink "VowCourt$Cause" 9 "VowCourt$Cause" "status" "I" : Cond) ∈ TB := TB_mem (List.mem_of_getElem? (i := 571) (by decide +kernel)) rfl
theorem w_573 : (.fieldLink "VowCourt$Cause" 15 "VowCourt$Cause" "instance" "I" : Cond) ∈ TB := TB_mem (List.mem_of_getElem? (i := 573) (by decide +kernel)) rfl
theorem w_575 : (.fieldLink "VowCourt$Cause" 18 "VowCourt$Cause" "weights" "[I" : Cond) ∈ TB := TB_mem (List.mem_of_getElem? (i := 575) (by decide +kernel)) rfl
theorem w_577 : (.fieldLink "VowCourt$Cause" 22 "VowCourt$Cause" "votes" "[I" : Cond) ∈ TB := TB_mem (List.mem_of_getElem? (i := 577) (by decide +kernel)) rfl
theorem w_579 : (.fieldLink "VowCourt$Cause" 25 "VowCourt$Cause" "sentences" "[I" : Cond) ∈ TB := TB_mem (List.mem_of_getElem? (i := 579) (by decide +kernel)) rfl
theorem w_636 : (.methodLink "VowCourt$Cause" 40 ⟨"VowCourt$Cause", "concludeFirst", "(I)V"⟩ : Cond) ∈ TB := TB_mem (List.mem_of_getElem? (i := 636) (by decide +kernel)) rfl
theorem w_637 : (.instanceMethod ⟨"VowCourt$Cause", "concludeFirst", "(I)V"⟩ : Cond) ∈ TB := TB_mem (List.mem_of_getElem? (i := 637) (by decide +kernel)) rfl
theorem w_638 : (.selects "VowCourt$Cause" ⟨"VowCourt$Cause", "concludeFirst", "(I)V"⟩ ⟨"VowCourt$Cause", "concludeFirst", "(I)V"⟩ : Cond) ∈ TB := TB_mem (List.mem_of_getElem? (i := 638) (by decide +kernel)) rfl
theorem w_639 : (.code yX0_concludeFirst cX0_concludeFirst 2 none : Cond) ∈ TB := TB_mem (List.mem_of_getElem? (i := 639) (by decide +kernel)) rfl
theorem w_640 : (.methodLink "VowCourt$Cause" 50 ⟨"VowCourt$Cause", "reopen", "()V"⟩ : Cond) ∈ TB := TB_mem (List.mem_of_getElem? (i := 640) (by decide +kernel)) rfl
theorem w_641 : (.instanceMethod ⟨"VowCourt$Cause", "reopen", "()V"⟩ : Cond) ∈ TB := TB_mem (List.mem_of_getElem? (i := 641) (by decide +kernel)) rfl
theorem w_642 : (.selects "VowCourt$Cause" ⟨"VowCourt$Cause", "reopen", "()V"⟩ ⟨"VowCourt$Cause", "reopen", "()V"⟩ : Cond) ∈ TB := TB_mem (List.mem_of_getElem? (i := 642) (by decide +kernel)) rfl
theorem w_643 : (.code yX0_reopen cX0_reopen 1 none : Cond) ∈ TB := TB_mem (List.mem_of_getElem? (i := 643) (by decide +kernel)) rfl
theorem w_644 : (.methodLink "VowCourt$Cause" 44 ⟨"VowCourt$Cause", "concludeSecond", "(I)V"⟩ : Cond) ∈ TB := TB_mem (List.mem_of_getElem? (i := 644) (by decide +kernel)) rfl
theorem w_645 : (.instanceMethod ⟨"VowCourt$Cause", "concludeSecond", "(I)V"⟩ : Cond) ∈ TB := TB_mem (List.mem_of_getElem? (i := 645) (by decide +kernel)) rfl
theorem w_646 : (.selects "VowCourt$Cause" ⟨"VowCourt$Cause", "concludeSecond", "(I)V"⟩ ⟨"VowCourt$Cause", "concludeSecond", "(I)V"⟩ : Cond) ∈ TB := TB_mem (List.mem_of_getElem? (i := 646) (by decide +kernel)) rfl
theorem w_647 : (.code yX0_concludeSecond cX0_concludeSecond 2 none : Cond) ∈ TB := TB_mem (List.mem_of_getElem? (i := 647) (by decide +kernel)) rfl
theorem w_648 : (.methodLink "VowCourt$Cause" 53 ⟨"VowCourt$Cause", "alike", "(II)Z"⟩ : Cond) ∈ TB := TB_mem (List.mem_of_getElem? (i := 648) (by decide +kernel)) rfl
theorem w_649 : (.static ⟨"VowCourt$Cause", "alike", "(II)Z"⟩ : Cond) ∈ TB := TB_mem (List.mem_of_getElem? (i := 649) (by decide +kernel)) rfl
theorem w_650 : (.code yX0_alike cX0_alike 3 (some .boolean) : Cond) ∈ TB := TB_mem (List.mem_of_getElem? (i := 650) (by decide +kernel)) rfl
theorem w_651 : (.methodLink "VowCourt$Cause" 47 ⟨"VowCourt$Cause", "concludeThird", "(I)V"⟩ : Cond) ∈ TB := TB_mem (List.mem_of_getElem? (i := 651) (by decide +kernel)) rfl
theorem w_652 : (.instanceMethod ⟨"VowCourt$Cause", "concludeThird", "(I)V"⟩ : Cond) ∈ TB := TB_mem (List.mem_of_getElem? (i := 652) (by decide +kernel)) rfl
theorem w_653 : (.selects "VowCourt$Cause" ⟨"VowCourt$Cause", "concludeThird", "(I)V"⟩ ⟨"VowCourt$Cause", "concludeThird", "(I)V"⟩ : Cond) ∈ TB := TB_mem (List.mem_of_getElem? (i := 653) (by decide +kernel)) rfl
theorem w_654 : (.code yX0_concludeThird cX0_concludeThird 3 none : Cond) ∈ TB := TB_mem (List.mem_of_getElem? (i := 654) (by decide +kernel)) rfl
theorem Ib_lit {j : Int32} {n : Nat} (h : ¬ j < 0 ∧ j.toNatClampNeg < n) : Ib j n := Ib_of (fun q => q.elim h.1 (fun z => Nat.not_le.mpr h.2 z))
def op_alen (nx : Nat) : Sem := fun _ k _ _ u L st s => match st with
  | .inl (.inr (t, i)) :: st' => (match ob t, ar t with
    | none, some (0, n) => Lv s t i ∧ k nx u L (aI (Int32.ofNat n) :: st') s
    | _, _ => False)
  | _ => False
theorem ok_arraylength {own : String} {cc : ByteArray} {nL d U : Nat} {ret : Option FieldType} {pc nx : Nat} (hd : decode cc pc = .ok (.arraylength, 1)) (hn : pc + 1 = nx) : Snd own cc nL d U ret pc (op_alen nx) := by
  intro g p l e R s m args below meth c w0 hC ad K N X Q hQ k hk u L st s0 h
  subst hn
  intro H locs ls hP hS hl
  unfold op_alen at h
  split at h
  · rename_i t i st'
    split at h
    · rename_i n ho hr
      obtain ⟨hL, h⟩ := h
      obtain ⟨q0, ha, hK0⟩ := gws_at (g := g) (ad := ad) (s := s0) (hP.2.2.1 t i hL)
      rw [ent_0 ho hr] at ha
      exact va_alen (D := g.1) hC.1.1 hC.1.2.1 hC.2.1.1 hP.1 q0 0 ha rfl rfl hd (hk _ _ _ _ _ h H locs ls hP hS hl)
    · exact h.elim
  · exact h.elim
/-- the first n places of a row, all of one value -/
def stI (s : Sg) (t i n : Nat) (v : Int32) : Sg := (s.1, fun a b c => if a = t ∧ b = i ∧ c < n then v else s.2.1 a b c, s.2.2)
theorem stI_get {s : Sg} {t i n a b c : Nat} {v : Int32} : (stI s t i n v).2.1 a b c = if a = t ∧ b = i ∧ c < n then v else s.2.1 a b c := rfl
theorem stI_0 {s : Sg} {t i : Nat} {v : Int32} : stI s t i 0 v = s := Sg_ext rfl (fun a b c => by rw [stI_get, if_neg (by omega)]) rfl
theorem stI_s {s : Sg} {t i n : Nat} {v : Int32} : stS (stI s t i n v) t i n v = stI s t i (n + 1) v := by
  refine Sg_ext rfl (fun a b c => ?_) rfl
  rw [stS_get, stI_get, stI_get]
  by_cases e : a = t ∧ b = i
  · obtain ⟨rfl, rfl⟩ := e
    by_cases e2 : c = n
    · rw [if_pos ⟨rfl, rfl, e2⟩, if_pos ⟨rfl, rfl, by omega⟩]
    · rw [if_neg (by omega)]
      by_cases e3 : c < n
      · rw [if_pos ⟨rfl, rfl, e3⟩, if_pos ⟨rfl, rfl, by omega⟩]
      · rw [if_neg (by omega), if_neg (by omega)]
  · rw [if_neg (by omega), if_neg (by omega), if_neg (by omega)]
theorem dJ7_fill_53178_0 : decode cJ7_fill_53178 0 = .ok (.iconst 0, 1) := by decide +kernel
theorem dJ7_fill_53178_1 : decode cJ7_fill_53178 1 = .ok (.istore_n 2, 1) := by decide +kernel
theorem dJ7_fill_53178_2 : decode cJ7_fill_53178 2 = .ok (.aload_n 0, 1) := by decide +kernel
theorem dJ7_fill_53178_3 : decode cJ7_fill_53178 3 = .ok (.arraylength, 1) := by decide +kernel
theorem dJ7_fill_53178_4 : decode cJ7_fill_53178 4 = .ok (.istore_n 3, 1) := by decide +kernel
theorem dJ7_fill_53178_5 : decode cJ7_fill_53178 5 = .ok (.iload_n 2, 1) := by decide +kernel
theorem dJ7_fill_53178_6 : decode cJ7_fill_53178 6 = .ok (.iload_n 3, 1) := by decide +kernel
theorem dJ7_fill_53178_7 : decode cJ7_fill_53178 7 = .ok (.if_icmp .ge 13, 3) := by decide +kernel
theorem dJ7_fill_53178_10 : decode cJ7_fill_53178 10 = .ok (.aload_n 0, 1) := by decide +kernel
theorem dJ7_fill_53178_11 : decode cJ7_fill_53178 11 = .ok (.iload_n 2, 1) := by decide +kernel
theorem dJ7_fill_53178_12 : decode cJ7_fill_53178 12 = .ok (.iload_n 1, 1) := by decide +kernel
theorem dJ7_fill_53178_13 : decode cJ7_fill_53178 13 = .ok (.iastore, 1) := by decide +kernel
theorem dJ7_fill_53178_14 : decode cJ7_fill_53178 14 = .ok (.iinc 2 1, 3) := by decide +kernel
theorem dJ7_fill_53178_17 : decode cJ7_fill_53178 17 = .ok (.goto (-12), 3) := by decide +kernel
theorem dJ7_fill_53178_20 : decode cJ7_fill_53178 20 = .ok (.return_, 1) := by decide +kernel
def tab_J7_fill_53178 : List (Nat × Sem) := [(0, op_ic 0 1), (1, op_is 2 2), (2, op_al 0 3), (3, op_alen 4), (4, op_is 3 5), (5, op_il 2 6), (6, op_il 3 7), (7, op_cmp (fun x y => y ≤ x) 20 10), (10, op_al 0 11), (11, op_il 2 12), (12, op_il 1 13), (13, op_iast 14), (14, op_inc 2 1 17), (17, op_go 5), (20, op_vret)]
set_option maxRecDepth 20000 in
theorem tok_J7_fill_53178 : ∀ q ∈ tab_J7_fill_53178, Snd RJ7 cJ7_fill_53178 4 0 0 none q.1 q.2 := by
  unfold tab_J7_fill_53178
  refine tcons (ok_iconst dJ7_fill_53178_0 rfl rfl) ?_
  refine tcons (ok_istore_n dJ7_fill_53178_1 rfl (by decide) rfl) ?_
  refine tcons (ok_aload_n dJ7_fill_53178_2 rfl rfl) ?_
  refine tcons (ok_arraylength dJ7_fill_53178_3 rfl) ?_
  refine tcons (ok_istore_n dJ7_fill_53178_4 rfl (by decide) rfl) ?_
  refine tcons (ok_iload_n dJ7_fill_53178_5 rfl rfl) ?_
  refine tcons (ok_iload_n dJ7_fill_53178_6 rfl rfl) ?_
  refine tcons (ok_icmp_ge dJ7_fill_53178_7 rfl rfl) ?_
  refine tcons (ok_aload_n dJ7_fill_53178_10 rfl rfl) ?_
  refine tcons (ok_iload_n dJ7_fill_53178_11 rfl rfl) ?_
  refine tcons (ok_iload_n dJ7_fill_53178_12 rfl rfl) ?_
  refine tcons (ok_iastore dJ7_fill_53178_13 rfl) ?_
  refine tcons (ok_iinc dJ7_fill_53178_14 rfl (by decide) rfl) ?_
  refine tcons (ok_goto dJ7_fill_53178_17 rfl) ?_
  refine tcons (ok_vreturn rfl dJ7_fill_53178_20) ?_
  exact fun _ h => nomatch h
def sp_J7_fill_53178 : Spc := fun av s N _ => match av with
  | [.inl (.inr (16, i)), .inl (.inl v)] => Lv s 16 i ∧ N none (stI s 16 i 3 v)
  | [.inl (.inr (17, i)), .inl (.inl v)] => Lv s 17 i ∧ N none (stI s 17 i 3 v)
  | [.inl (.inr (6, i)), .inl (.inl v)] => Lv s 6 i ∧ N none (stI s 6 i 24 v)
  | _ => False
theorem M_J7_fill_53178 : AMet yJ7_fill_53178 cJ7_fill_53178 4 none 0 0 sp_J7_fill_53178 := by
  refine AMet.mc (own := RJ7) (by decide) rfl [0, 1, 2, 3] rfl tok_J7_fill_53178 200 ?_
  intro av s0 N X h
  unfold sp_J7_fill_53178 at h
  split at h
  · rename_i i v
    obtain ⟨hL, h⟩ := h
    refine ⟨[(5, fun m u L st s => ∃ k, k ≤ 3 ∧ m = 3 - k ∧ u = 0 ∧ L = [(0, .inr (16, i)), (1, .inl v), (2, .inl (nI k)), (3, .inl 3)] ∧ st = [] ∧ s = stI s0 16 i k v)], ?_, ac ?_ an⟩
    · repeat' (first | apply And.intro | (intro q; exact absurd q (by decide)) | intro _)
      all_goals first | decide | (exact Nat.le_of_ble_eq_true rfl) | (exact hL) | (exact ⟨3, 4, trivial, 0, Nat.zero_le _, rfl, rfl, rfl, rfl, stI_0.symm⟩)
    · rintro m u L st s ⟨k, hk, rfl, rfl, rfl, rfl, rfl⟩
      by_cases hkn : k < 3
      · have hle : ¬ (3 : Int32) ≤ nI k := fun q => by have := (nIge (a := k) (b := 3) (N := 30) (by omega) (by omega) (by decide)).mp q; omega
        have c0 : (nI k).toNatClampNeg = k := nI_clamp (by omega)
        repeat' (first | apply And.intro | (intro q; exact absurd q (by decide)) | (intro q; exact absurd q hle) | intro _)
        all_goals first | decide | (exact Nat.le_of_ble_eq_true rfl) | (exact hL) | (exact nIb hkn (by decide)) | (exact ⟨3 - (k + 1), 4, by omega, k + 1, by omega, rfl, rfl, by rw [← nIs]; rfl, rfl, by rw [c0]; exact stI_s⟩)
      · obtain rfl : k = 3 := by omega
        have hle : (3 : Int32) ≤ nI 3 := by decide
        repeat' (first | apply And.intro | (intro q; exact absurd q (by decide)) | (intro q; exact absurd hle q) | intro _)
        all_goals first | decide | (exact Nat.le_of_ble_eq_true rfl) | (exact h)
  · rename_i i v
    obtain ⟨hL, h⟩ := h
    refine ⟨[(5, fun m u L st s => ∃ k, k ≤ 3 ∧ m = 3 - k ∧ u = 0 ∧ L = [(0, .inr (17, i)), (1, .inl v), (2, .inl (nI k)), (3, .inl 3)] ∧ st = [] ∧ s = stI s0 17 i k v)], ?_, ac ?_ an⟩
    · repeat' (first | apply And.intro | (intro q; exact absurd q (by decide)) | intro _)
      all_goals first | decide | (exact Nat.le_of_ble_eq_true rfl) | (exact hL) | (exact ⟨3, 4, trivial, 0, Nat.zero_le _, rfl, rfl, rfl, rfl, stI_0.symm⟩)
    · rintro m u L st s ⟨k, hk, rfl, rfl, rfl, rfl, rfl⟩
      by_cases hkn : k < 3
      · have hle : ¬ (3 : Int32) ≤ nI k := fun q => by have := (nIge (a := k) (b := 3) (N := 30) (by omega) (by omega) (by decide)).mp q; omega
        have c0 : (nI k).toNatClampNeg = k := nI_clamp (by omega)
        repeat' (first | apply And.intro | (intro q; exact absurd q (by decide)) | (intro q; exact absurd q hle) | intro _)
        all_goals first | decide | (exact Nat.le_of_ble_eq_true rfl) | (exact hL) | (exact nIb hkn (by decide)) | (exact ⟨3 - (k + 1), 4, by omega, k + 1, by omega, rfl, rfl, by rw [← nIs]; rfl, rfl, by rw [c0]; exact stI_s⟩)
      · obtain rfl : k = 3 := by omega
        have hle : (3 : Int32) ≤ nI 3 := by decide
        repeat' (first | apply And.intro | (intro q; exact absurd q (by decide)) | (intro q; exact absurd hle q) | intro _)
        all_goals first | decide | (exact Nat.le_of_ble_eq_true rfl) | (exact h)
  · rename_i i v
    obtain ⟨hL, h⟩ := h
    refine ⟨[(5, fun m u L st s => ∃ k, k ≤ 24 ∧ m = 24 - k ∧ u = 0 ∧ L = [(0, .inr (6, i)), (1, .inl v), (2, .inl (nI k)), (3, .inl 24)] ∧ st = [] ∧ s = stI s0 6 i k v)], ?_, ac ?_ an⟩
    · repeat' (first | apply And.intro | (intro q; exact absurd q (by decide)) | intro _)
      all_goals first | decide | (exact Nat.le_of_ble_eq_true rfl) | (exact hL) | (exact ⟨24, 4, trivial, 0, Nat.zero_le _, rfl, rfl, rfl, rfl, stI_0.symm⟩)
    · rintro m u L st s ⟨k, hk, rfl, rfl, rfl, rfl, rfl⟩
      by_cases hkn : k < 24
      · have hle : ¬ (24 : Int32) ≤ nI k := fun q => by have := (nIge (a := k) (b := 24) (N := 30) (by omega) (by omega) (by decide)).mp q; omega
        have c0 : (nI k).toNatClampNeg = k := nI_clamp (by omega)
        repeat' (first | apply And.intro | (intro q; exact absurd q (by decide)) | (intro q; exact absurd q hle) | intro _)
        all_goals first | decide | (exact Nat.le_of_ble_eq_true rfl) | (exact hL) | (exact nIb hkn (by decide)) | (exact ⟨24 - (k + 1), 4, by omega, k + 1, by omega, rfl, rfl, by rw [← nIs]; rfl, rfl, by rw [c0]; exact stI_s⟩)
      · obtain rfl : k = 24 := by omega
        have hle : (24 : Int32) ≤ nI 24 := by decide
        repeat' (first | apply And.intro | (intro q; exact absurd q (by decide)) | (intro q; exact absurd hle q) | intro _)
        all_goals first | decide | (exact Nat.le_of_ble_eq_true rfl) | (exact h)
  · exact h.elim
theorem dX2_mayVow_0 : decode cX2_mayVow 0 = .ok (.aload_n 0, 1) := by decide +kernel
theorem dX2_mayVow_1 : decode cX2_mayVow 1 = .ok (.getfield 20, 3) := by decide +kernel
theorem dX2_mayVow_4 : decode cX2_mayVow 4 = .ok (.ifCond .eq 14, 3) := by decide +kernel
theorem dX2_mayVow_7 : decode cX2_mayVow 7 = .ok (.aload_n 0, 1) := by decide +kernel
theorem dX2_mayVow_8 : decode cX2_mayVow 8 = .ok (.getfield 17, 3) := by decide +kernel
theorem dX2_mayVow_11 : decode cX2_mayVow 11 = .ok (.ifCond .ne 7, 3) := by decide +kernel
theorem dX2_mayVow_14 : decode cX2_mayVow 14 = .ok (.iconst 1, 1) := by decide +kernel
theorem dX2_mayVow_15 : decode cX2_mayVow 15 = .ok (.goto 4, 3) := by decide +kernel
theorem dX2_mayVow_18 : decode cX2_mayVow 18 = .ok (.iconst 0, 1) := by decide +kernel
theorem dX2_mayVow_19 : decode cX2_mayVow 19 = .ok (.ireturn, 1) := by decide +kernel
def tab_X2_mayVow : List (Nat × Sem) := [(0, op_al 0 1), (1, op_gf 4 5 4), (4, op_if (fun x => x = 0) 18 7), (7, op_al 0 8), (8, op_gf 4 4 11), (11, op_if (fun x => ¬ x = 0) 18 14), (14, op_ic 1 15), (15, op_go 19), (18, op_ic 0 19), (19, op_zret)]
set_option maxRecDepth 20000 in
theorem tok_X2_mayVow : ∀ q ∈ tab_X2_mayVow, Snd RX2 cX2_mayVow 1 0 0 (some .boolean) q.1 q.2 := by
  unfold tab_X2_mayVow
  refine tcons (ok_aload_n dX2_mayVow_0 rfl rfl) ?_
  refine tcons (ok_getfield (C := RX2) (T := TX2) (n := 6) rfl in_X2 (by decide) w_286 dX2_mayVow_1 rfl) ?_
  refine tcons (ok_if_eq dX2_mayVow_4 rfl rfl) ?_
  refine tcons (ok_aload_n dX2_mayVow_7 rfl rfl) ?_
  refine tcons (ok_getfield (C := RX2) (T := TX2) (n := 6) rfl in_X2 (by decide) w_284 dX2_mayVow_8 rfl) ?_
  refine tcons (ok_if_ne dX2_mayVow_11 rfl rfl) ?_
  refine tcons (ok_iconst dX2_mayVow_14 rfl rfl) ?_
  refine tcons (ok_goto dX2_mayVow_15 rfl) ?_
  refine tcons (ok_iconst dX2_mayVow_18 rfl rfl) ?_
  refine tcons (ok_zreturn rfl (Or.inl rfl) dX2_mayVow_19) ?_
  exact fun _ h => nomatch h
def sp_X2_mayVow : Spc := fun av s N _ => match av with
  | [.inl (.inr (12, i))] => Lv s 12 i ∧ br (¬ s.2.1 12 i 5 = 0 ∧ s.2.1 12 i 4 = 0) N s
  | _ => False
set_option maxRecDepth 20000 in
set_option maxHeartbeats 2000000 in
theorem M_X2_mayVow : AMet yX2_mayVow cX2_mayVow 1 (some .boolean) 0 0 sp_X2_mayVow := by
  refine AMet.mk (own := RX2) (by decide) rfl [0] rfl tok_X2_mayVow 200 ?_
  intro av s0 N X h
  unfold sp_X2_mayVow at h
  split at h
  rotate_left
  · exact h.elim
  refine ⟨fun _ => none, ?_, fun pc P hP => nomatch hP⟩
  repeat' (first | apply And.intro | (intro q; exact absurd q (by decide)) | intro _)
  all_goals first | decide | (exact (rfl : (0 : Nat) = 0)) | (exact Nat.le_of_ble_eq_true rfl) | (exact h.1) | (simp_all [-Int32.not_lt, -Int32.not_le, br]; done) | (simp_all [-Int32.not_lt, -Int32.not_le, ← Int32.not_le, br]; done) | (simp_all [br]; done)
theorem dX3_isOf_0 : decode cX3_isOf 0 = .ok (.iload_n 1, 1) := by decide +kernel
theorem dX3_isOf_1 : decode cX3_isOf 1 = .ok (.aload_n 0, 1) := by decide +kernel
theorem dX3_isOf_2 : decode cX3_isOf 2 = .ok (.getfield 18, 3) := by decide +kernel
theorem dX3_isOf_5 : decode cX3_isOf 5 = .ok (.if_icmp .eq 11, 3) := by decide +kernel
theorem dX3_isOf_8 : decode cX3_isOf 8 = .ok (.iload_n 1, 1) := by decide +kernel
theorem dX3_isOf_9 : decode cX3_isOf 9 = .ok (.aload_n 0, 1) := by decide +kernel
theorem dX3_isOf_10 : decode cX3_isOf 10 = .ok (.getfield 21, 3) := by decide +kernel
theorem dX3_isOf_13 : decode cX3_isOf 13 = .ok (.if_icmp .ne 7, 3) := by decide +kernel
theorem dX3_isOf_16 : decode cX3_isOf 16 = .ok (.iconst 1, 1) := by decide +kernel
theorem dX3_isOf_17 : decode cX3_isOf 17 = .ok (.goto 4, 3) := by decide +kernel
theorem dX3_isOf_20 : decode cX3_isOf 20 = .ok (.iconst 0, 1) := by decide +kernel
theorem dX3_isOf_21 : decode cX3_isOf 21 = .ok (.ireturn, 1) := by decide +kernel
def tab_X3_isOf : List (Nat × Sem) := [(0, op_il 1 1), (1, op_al 0 2), (2, op_gf 5 0 5), (5, op_cmp (fun x y => x = y) 16 8), (8, op_il 1 9), (9, op_al 0 10), (10, op_gf 5 1 13), (13, op_cmp (fun x y => ¬ x = y) 20 16), (16, op_ic 1 17), (17, op_go 21), (20, op_ic 0 21), (21, op_zret)]
set_option maxRecDepth 20000 in
theorem tok_X3_isOf : ∀ q ∈ tab_X3_isOf, Snd RX3 cX3_isOf 2 0 0 (some .boolean) q.1 q.2 := by
  unfold tab_X3_isOf
  refine tcons (ok_iload_n dX3_isOf_0 rfl rfl) ?_
  refine tcons (ok_aload_n dX3_isOf_1 rfl rfl) ?_
  refine tcons (ok_getfield (C := RX3) (T := TX3) (n := 8) rfl in_X3 (by decide) w_466 dX3_isOf_2 rfl) ?_
  refine tcons (ok_icmp_eq dX3_isOf_5 rfl rfl) ?_
  refine tcons (ok_iload_n dX3_isOf_8 rfl rfl) ?_
  refine tcons (ok_aload_n dX3_isOf_9 rfl rfl) ?_
  refine tcons (ok_getfield (C := RX3) (T := TX3) (n := 8) rfl in_X3 (by decide) w_468 dX3_isOf_10 rfl) ?_
  refine tcons (ok_icmp_ne dX3_isOf_13 rfl rfl) ?_
  refine tcons (ok_iconst dX3_isOf_16 rfl rfl) ?_
  refine tcons (ok_goto dX3_isOf_17 rfl) ?_
  refine tcons (ok_iconst dX3_isOf_20 rfl rfl) ?_
  refine tcons (ok_zreturn rfl (Or.inl rfl) dX3_isOf_21) ?_
  exact fun _ h => nomatch h
def sp_X3_isOf : Spc := fun av s N _ => match av with
  | [.inl (.inr (13, i)), .inl (.inl p)] => Lv s 13 i ∧ br (p = s.2.1 13 i 0 ∨ p = s.2.1 13 i 1) N s
  | _ => False
set_option maxRecDepth 20000 in
set_option maxHeartbeats 2000000 in
theorem M_X3_isOf : AMet yX3_isOf cX3_isOf 2 (some .boolean) 0 0 sp_X3_isOf := by
  refine AMet.mk (own := RX3) (by decide) rfl [0, 1] rfl tok_X3_isOf 200 ?_
  intro av s0 N X h
  unfold sp_X3_isOf at h
  split at h
  rotate_left
  · exact h.elim
  refine ⟨fun _ => none, ?_, fun pc P hP => nomatch hP⟩
  repeat' (first | apply And.intro | (intro q; exact absurd q (by decide)) | intro _)
  all_goals first | decide | (exact (rfl : (0 : Nat) = 0)) | (exact Nat.le_of_ble_eq_true rfl) | (exact h.1) | (simp_all [-Int32.not_lt, -Int32.not_le, br]; done) | (simp_all [-Int32.not_lt, -Int32.not_le, ← Int32.not_le, br]; done) | (simp_all [br]; done)
theorem dX3_partnerOf_0 : decode cX3_partnerOf 0 = .ok (.iload_n 1, 1) := by decide +kernel
theorem dX3_partnerOf_1 : decode cX3_partnerOf 1 = .ok (.aload_n 0, 1) := by decide +kernel
theorem dX3_partnerOf_2 : decode cX3_partnerOf 2 = .ok (.getfield 18, 3) := by decide +kernel
theorem dX3_partnerOf_5 : decode cX3_partnerOf 5 = .ok (.if_icmp .ne 10, 3) := by decide +kernel
theorem dX3_partnerOf_8 : decode cX3_partnerOf 8 = .ok (.aload_n 0, 1) := by decide +kernel
theorem dX3_partnerOf_9 : decode cX3_partnerOf 9 = .ok (.getfield 21, 3) := by decide +kernel
theorem dX3_partnerOf_12 : decode cX3_partnerOf 12 = .ok (.goto 7, 3) := by decide +kernel
theorem dX3_partnerOf_15 : decode cX3_partnerOf 15 = .ok (.aload_n 0, 1) := by decide +kernel
theorem dX3_partnerOf_16 : decode cX3_partnerOf 16 = .ok (.getfield 18, 3) := by decide +kernel
theorem dX3_partnerOf_19 : decode cX3_partnerOf 19 = .ok (.ireturn, 1) := by decide +kernel
def tab_X3_partnerOf : List (Nat × Sem) := [(0, op_il 1 1), (1, op_al 0 2), (2, op_gf 5 0 5), (5, op_cmp (fun x y => ¬ x = y) 15 8), (8, op_al 0 9), (9, op_gf 5 1 12), (12, op_go 19), (15, op_al 0 16), (16, op_gf 5 0 19), (19, op_iret)]
set_option maxRecDepth 20000 in
theorem tok_X3_partnerOf : ∀ q ∈ tab_X3_partnerOf, Snd RX3 cX3_partnerOf 2 0 0 (some .int) q.1 q.2 := by
  unfold tab_X3_partnerOf
  refine tcons (ok_iload_n dX3_partnerOf_0 rfl rfl) ?_
  refine tcons (ok_aload_n dX3_partnerOf_1 rfl rfl) ?_
  refine tcons (ok_getfield (C := RX3) (T := TX3) (n := 8) rfl in_X3 (by decide) w_466 dX3_partnerOf_2 rfl) ?_
  refine tcons (ok_icmp_ne dX3_partnerOf_5 rfl rfl) ?_
  refine tcons (ok_aload_n dX3_partnerOf_8 rfl rfl) ?_
  refine tcons (ok_getfield (C := RX3) (T := TX3) (n := 8) rfl in_X3 (by decide) w_468 dX3_partnerOf_9 rfl) ?_
  refine tcons (ok_goto dX3_partnerOf_12 rfl) ?_
  refine tcons (ok_aload_n dX3_partnerOf_15 rfl rfl) ?_
  refine tcons (ok_getfield (C := RX3) (T := TX3) (n := 8) rfl in_X3 (by decide) w_466 dX3_partnerOf_16 rfl) ?_
  refine tcons (ok_ireturn rfl dX3_partnerOf_19) ?_
  exact fun _ h => nomatch h
def sp_X3_partnerOf : Spc := fun av s N _ => match av with
  | [.inl (.inr (13, i)), .inl (.inl p)] => Lv s 13 i ∧ (p = s.2.1 13 i 0 → N (some (aI (s.2.1 13 i 1))) s) ∧ (¬ p = s.2.1 13 i 0 → N (some (aI (s.2.1 13 i 0))) s)
  | _ => False
set_option maxRecDepth 20000 in
set_option maxHeartbeats 2000000 in
theorem M_X3_partnerOf : AMet yX3_partnerOf cX3_partnerOf 2 (some .int) 0 0 sp_X3_partnerOf := by
  refine AMet.mk (own := RX3) (by decide) rfl [0, 1] rfl tok_X3_partnerOf 200 ?_
  intro av s0 N X h
  unfold sp_X3_partnerOf at h
  split at h
  rotate_left
  · exact h.elim
  refine ⟨fun _ => none, ?_, fun pc P hP => nomatch hP⟩
  repeat' (first | apply And.intro | (intro q; exact absurd q (by decide)) | intro _)
  all_goals first | decide | (exact (rfl : (0 : Nat) = 0)) | (exact Nat.le_of_ble_eq_true rfl) | (exact h.1) | (simp_all [-Int32.not_lt, -Int32.not_le]; done) | (simp_all [-Int32.not_lt, -Int32.not_le, ← Int32.not_le]; done) | (simp_all []; done)
theorem dX3_bindsOn_0 : decode cX3_bindsOn 0 = .ok (.aload_n 0, 1) := by decide +kernel
theorem dX3_bindsOn_1 : decode cX3_bindsOn 1 = .ok (.getfield 27, 3) := by decide +kernel
theorem dX3_bindsOn_4 : decode cX3_bindsOn 4 = .ok (.iload_n 1, 1) := by decide +kernel
theorem dX3_bindsOn_5 : decode cX3_bindsOn 5 = .ok (.if_icmp .gt 30, 3) := by decide +kernel
theorem dX3_bindsOn_8 : decode cX3_bindsOn 8 = .ok (.aload_n 0, 1) := by decide +kernel
theorem dX3_bindsOn_9 : decode cX3_bindsOn 9 = .ok (.getfield 9, 3) := by decide +kernel
theorem dX3_bindsOn_12 : decode cX3_bindsOn 12 = .ok (.iconst 1, 1) := by decide +kernel
theorem dX3_bindsOn_13 : decode cX3_bindsOn 13 = .ok (.if_icmp .eq 22, 3) := by decide +kernel
theorem dX3_bindsOn_16 : decode cX3_bindsOn 16 = .ok (.aload_n 0, 1) := by decide +kernel
theorem dX3_bindsOn_17 : decode cX3_bindsOn 17 = .ok (.getfield 9, 3) := by decide +kernel
theorem dX3_bindsOn_20 : decode cX3_bindsOn 20 = .ok (.ifCond .eq 11, 3) := by decide +kernel
theorem dX3_bindsOn_23 : decode cX3_bindsOn 23 = .ok (.iload_n 1, 1) := by decide +kernel
theorem dX3_bindsOn_24 : decode cX3_bindsOn 24 = .ok (.aload_n 0, 1) := by decide +kernel
theorem dX3_bindsOn_25 : decode cX3_bindsOn 25 = .ok (.getfield 15, 3) := by decide +kernel
theorem dX3_bindsOn_28 : decode cX3_bindsOn 28 = .ok (.if_icmp .ge 7, 3) := by decide +kernel
theorem dX3_bindsOn_31 : decode cX3_bindsOn 31 = .ok (.iconst 1, 1) := by decide +kernel
theorem dX3_bindsOn_32 : decode cX3_bindsOn 32 = .ok (.goto 4, 3) := by decide +kernel
theorem dX3_bindsOn_35 : decode cX3_bindsOn 35 = .ok (.iconst 0, 1) := by decide +kernel
theorem dX3_bindsOn_36 : decode cX3_bindsOn 36 = .ok (.ireturn, 1) := by decide +kernel
def tab_X3_bindsOn : List (Nat × Sem) := [(0, op_al 0 1), (1, op_gf 5 3 4), (4, op_il 1 5), (5, op_cmp (fun x y => y < x) 35 8), (8, op_al 0 9), (9, op_gf 5 6 12), (12, op_ic 1 13), (13, op_cmp (fun x y => x = y) 35 16), (16, op_al 0 17), (17, op_gf 5 6 20), (20, op_if (fun x => x = 0) 31 23), (23, op_il 1 24), (24, op_al 0 25), (25, op_gf 5 7 28), (28, op_cmp (fun x y => y ≤ x) 35 31), (31, op_ic 1 32), (32, op_go 36), (35, op_ic 0 36), (36, op_zret)]
set_option maxRecDepth 20000 in
theorem tok_X3_bindsOn : ∀ q ∈ tab_X3_bindsOn, Snd RX3 cX3_bindsOn 2 0 0 (some .boolean) q.1 q.2 := by
  unfold tab_X3_bindsOn
  refine tcons (ok_aload_n dX3_bindsOn_0 rfl rfl) ?_
  refine tcons (ok_getfield (C := RX3) (T := TX3) (n := 8) rfl in_X3 (by decide) w_472 dX3_bindsOn_1 rfl) ?_
  refine tcons (ok_iload_n dX3_bindsOn_4 rfl rfl) ?_
  refine tcons (ok_icmp_gt dX3_bindsOn_5 rfl rfl) ?_
  refine tcons (ok_aload_n dX3_bindsOn_8 rfl rfl) ?_
  refine tcons (ok_getfield (C := RX3) (T := TX3) (n := 8) rfl in_X3 (by decide) w_478 dX3_bindsOn_9 rfl) ?_
  refine tcons (ok_iconst dX3_bindsOn_12 rfl rfl) ?_
  refine tcons (ok_icmp_eq dX3_bindsOn_13 rfl rfl) ?_
  refine tcons (ok_aload_n dX3_bindsOn_16 rfl rfl) ?_
  refine tcons (ok_getfield (C := RX3) (T := TX3) (n := 8) rfl in_X3 (by decide) w_478 dX3_bindsOn_17 rfl) ?_
  refine tcons (ok_if_eq dX3_bindsOn_20 rfl rfl) ?_
  refine tcons (ok_iload_n dX3_bindsOn_23 rfl rfl) ?_
  refine tcons (ok_aload_n dX3_bindsOn_24 rfl rfl) ?_
  refine tcons (ok_getfield (C := RX3) (T := TX3) (n := 8) rfl in_X3 (by decide) w_480 dX3_bindsOn_25 rfl) ?_
  refine tcons (ok_icmp_ge dX3_bindsOn_28 rfl rfl) ?_
  refine tcons (ok_iconst dX3_bindsOn_31 rfl rfl) ?_
  refine tcons (ok_goto dX3_bindsOn_32 rfl) ?_
  refine tcons (ok_iconst dX3_bindsOn_35 rfl rfl) ?_
  refine tcons (ok_zreturn rfl (Or.inl rfl) dX3_bindsOn_36) ?_
  exact fun _ h => nomatch h
def sp_X3_bindsOn : Spc := fun av s N _ => match av with
  | [.inl (.inr (13, i)), .inl (.inl t)] => Lv s 13 i ∧ br (¬ t < s.2.1 13 i 3 ∧ ¬ s.2.1 13 i 6 = 1 ∧ (s.2.1 13 i 6 = 0 ∨ t < s.2.1 13 i 7)) N s
  | _ => False
set_option maxRecDepth 20000 in
set_option maxHeartbeats 2000000 in
theorem M_X3_bindsOn : AMet yX3_bindsOn cX3_bindsOn 2 (some .boolean) 0 0 sp_X3_bindsOn := by
  refine AMet.mk (own := RX3) (by decide) rfl [0, 1] rfl tok_X3_bindsOn 200 ?_
  intro av s0 N X h
  unfold sp_X3_bindsOn at h
  split at h
  rotate_left
  · exact h.elim
  refine ⟨fun _ => none, ?_, fun pc P hP => nomatch hP⟩
  repeat' (first | apply And.intro | (intro q; exact absurd q (by decide)) | intro _)
  all_goals first | decide | (exact (rfl : (0 : Nat) = 0)) | (exact Nat.le_of_ble_eq_true rfl) | (exact h.1) | (simp_all [-Int32.not_lt, -Int32.not_le, br]; done) | (simp_all [-Int32.not_lt, -Int32.not_le, ← Int32.not_le, br]; done) | (simp_all [br]; done)
theorem dX3_turn_0 : decode cX3_turn 0 = .ok (.aload_n 0, 1) := by decide +kernel
theorem dX3_turn_1 : decode cX3_turn 1 = .ok (.iload_n 1, 1) := by decide +kernel
theorem dX3_turn_2 : decode cX3_turn 2 = .ok (.putfield 9, 3) := by decide +kernel
theorem dX3_turn_5 : decode cX3_turn 5 = .ok (.aload_n 0, 1) := by decide +kernel
theorem dX3_turn_6 : decode cX3_turn 6 = .ok (.iload_n 2, 1) := by decide +kernel
theorem dX3_turn_7 : decode cX3_turn 7 = .ok (.putfield 15, 3) := by decide +kernel
theorem dX3_turn_10 : decode cX3_turn 10 = .ok (.return_, 1) := by decide +kernel
def tab_X3_turn : List (Nat × Sem) := [(0, op_al 0 1), (1, op_il 1 2), (2, op_pf 5 6 5), (5, op_al 0 6), (6, op_il 2 7), (7, op_pf 5 7 10), (10, op_vret)]
set_option maxRecDepth 20000 in
theorem tok_X3_turn : ∀ q ∈ tab_X3_turn, Snd RX3 cX3_turn 3 0 0 none q.1 q.2 := by
  unfold tab_X3_turn
  refine tcons (ok_aload_n dX3_turn_0 rfl rfl) ?_
  refine tcons (ok_iload_n dX3_turn_1 rfl rfl) ?_
  refine tcons (ok_putfield (C := RX3) (T := TX3) (n := 8) tyX3 .int rfl in_X3 tyX3_ok nmX3 (by decide) rfl w_478 rfl (Or.inl rfl) dX3_turn_2 rfl) ?_
  refine tcons (ok_aload_n dX3_turn_5 rfl rfl) ?_
  refine tcons (ok_iload_n dX3_turn_6 rfl rfl) ?_
  refine tcons (ok_putfield (C := RX3) (T := TX3) (n := 8) tyX3 .int rfl in_X3 tyX3_ok nmX3 (by decide) rfl w_480 rfl (Or.inl rfl) dX3_turn_7 rfl) ?_
  refine tcons (ok_vreturn rfl dX3_turn_10) ?_
  exact fun _ h => nomatch h
def sp_X3_turn : Spc := fun av s N _ => match av with
  | [.inl (.inr (13, i)), .inl (.inl k), .inl (.inl t)] => Lv s 13 i ∧ N none (stS (stS s 13 i 6 k) 13 i 7 t)
  | _ => False
set_option maxRecDepth 20000 in
set_option maxHeartbeats 2000000 in
theorem M_X3_turn : AMet yX3_turn cX3_turn 3 none 0 0 sp_X3_turn := by
  refine AMet.mk (own := RX3) (by decide) rfl [0, 1, 2] rfl tok_X3_turn 200 ?_
  intro av s0 N X h
  unfold sp_X3_turn at h
  split at h
  rotate_left
  · exact h.elim
  refine ⟨fun _ => none, ?_, fun pc P hP => nomatch hP⟩
  repeat' (first | apply And.intro | (intro q; exact absurd q (by decide)) | intro _)
  all_goals first | decide | (exact (rfl : (0 : Nat) = 0)) | (exact Nat.le_of_ble_eq_true rfl) | (exact h.1) | (simp_all [-Int32.not_lt, -Int32.not_le]; done) | (simp_all [-Int32.not_lt, -Int32.not_le, ← Int32.not_le]; done) | (simp_all []; done)
theorem dX0_isOver_0 : decode cX0_isOver 0 = .ok (.aload_n 0, 1) := by decide +kernel
theorem dX0_isOver_1 : decode cX0_isOver 1 = .ok (.getfield 9, 3) := by decide +kernel
theorem dX0_isOver_4 : decode cX0_isOver 4 = .ok (.iconst 2, 1) := by decide +kernel
theorem dX0_isOver_5 : decode cX0_isOver 5 = .ok (.if_icmp .eq 11, 3) := by decide +kernel
theorem dX0_isOver_8 : decode cX0_isOver 8 = .ok (.aload_n 0, 1) := by decide +kernel
theorem dX0_isOver_9 : decode cX0_isOver 9 = .ok (.getfield 9, 3) := by decide +kernel
theorem dX0_isOver_12 : decode cX0_isOver 12 = .ok (.iconst 3, 1) := by decide +kernel
theorem dX0_isOver_13 : decode cX0_isOver 13 = .ok (.if_icmp .ne 7, 3) := by decide +kernel
theorem dX0_isOver_16 : decode cX0_isOver 16 = .ok (.iconst 1, 1) := by decide +kernel
theorem dX0_isOver_17 : decode cX0_isOver 17 = .ok (.goto 4, 3) := by decide +kernel
theorem dX0_isOver_20 : decode cX0_isOver 20 = .ok (.iconst 0, 1) := by decide +kernel
theorem dX0_isOver_21 : decode cX0_isOver 21 = .ok (.ireturn, 1) := by decide +kernel
def tab_X0_isOver : List (Nat × Sem) := [(0, op_al 0 1), (1, op_gf 2 2 4), (4, op_ic 2 5), (5, op_cmp (fun x y => x = y) 16 8), (8, op_al 0 9), (9, op_gf 2 2 12), (12, op_ic 3 13), (13, op_cmp (fun x y => ¬ x = y) 20 16), (16, op_ic 1 17), (17, op_go 21), (20, op_ic 0 21), (21, op_zret)]
set_option maxRecDepth 20000 in
theorem tok_X0_isOver : ∀ q ∈ tab_X0_isOver, Snd RX0 cX0_isOver 1 0 0 (some .boolean) q.1 q.2 := by
  unfold tab_X0_isOver
  refine tcons (ok_aload_n dX0_isOver_0 rfl rfl) ?_
  refine tcons (ok_getfield (C := RX0) (T := TX0) (n := 7) rfl in_X0 (by decide) w_571 dX0_isOver_1 rfl) ?_
  refine tcons (ok_iconst dX0_isOver_4 rfl rfl) ?_
  refine tcons (ok_icmp_eq dX0_isOver_5 rfl rfl) ?_
  refine tcons (ok_aload_n dX0_isOver_8 rfl rfl) ?_
  refine tcons (ok_getfield (C := RX0) (T := TX0) (n := 7) rfl in_X0 (by decide) w_571 dX0_isOver_9 rfl) ?_
  refine tcons (ok_iconst dX0_isOver_12 rfl rfl) ?_
  refine tcons (ok_icmp_ne dX0_isOver_13 rfl rfl) ?_
  refine tcons (ok_iconst dX0_isOver_16 rfl rfl) ?_
  refine tcons (ok_goto dX0_isOver_17 rfl) ?_
  refine tcons (ok_iconst dX0_isOver_20 rfl rfl) ?_
  refine tcons (ok_zreturn rfl (Or.inl rfl) dX0_isOver_21) ?_
  exact fun _ h => nomatch h
def sp_X0_isOver : Spc := fun av s N _ => match av with
  | [.inl (.inr (14, i))] => Lv s 14 i ∧ br (s.2.1 14 i 2 = 2 ∨ s.2.1 14 i 2 = 3) N s
  | _ => False
set_option maxRecDepth 20000 in
set_option maxHeartbeats 2000000 in
theorem M_X0_isOver : AMet yX0_isOver cX0_isOver 1 (some .boolean) 0 0 sp_X0_isOver := by
  refine AMet.mk (own := RX0) (by decide) rfl [0] rfl tok_X0_isOver 200 ?_
  intro av s0 N X h
  unfold sp_X0_isOver at h
  split at h
  rotate_left
  · exact h.elim
  refine ⟨fun _ => none, ?_, fun pc P hP => nomatch hP⟩
  repeat' (first | apply And.intro | (intro q; exact absurd q (by decide)) | intro _)
  all_goals first | decide | (exact (rfl : (0 : Nat) = 0)) | (exact Nat.le_of_ble_eq_true rfl) | (exact h.1) | (simp_all [-Int32.not_lt, -Int32.not_le, br]; done) | (simp_all [-Int32.not_lt, -Int32.not_le, ← Int32.not_le, br]; done) | (simp_all [br]; done)
def pgR (w : Nat → Int32) : Nat → Int32
  | 0 => 0
  | g + 1 => if w g < 6 then pgR w g else pgR w g ||| ((1 : Int32) <<< (nI g &&& 31))
def prC (s : Sg) (i : Nat) : Int32 := pgR (s.2.1 15 i) 7 &&& s.2.1 14 i 1
theorem dX0_provedGrounds_0 : decode cX0_provedGrounds 0 = .ok (.iconst 0, 1) := by decide +kernel
theorem dX0_provedGrounds_1 : decode cX0_provedGrounds 1 = .ok (.istore_n 1, 1) := by decide +kernel
theorem dX0_provedGrounds_2 : decode cX0_provedGrounds 2 = .ok (.iconst 0, 1) := by decide +kernel
theorem dX0_provedGrounds_3 : decode cX0_provedGrounds 3 = .ok (.istore_n 2, 1) := by decide +kernel
theorem dX0_provedGrounds_4 : decode cX0_provedGrounds 4 = .ok (.iload_n 2, 1) := by decide +kernel
theorem dX0_provedGrounds_5 : decode cX0_provedGrounds 5 = .ok (.bipush 7, 2) := by decide +kernel
theorem dX0_provedGrounds_7 : decode cX0_provedGrounds 7 = .ok (.if_icmp .ge 26, 3) := by decide +kernel
theorem dX0_provedGrounds_10 : decode cX0_provedGrounds 10 = .ok (.aload_n 0, 1) := by decide +kernel
theorem dX0_provedGrounds_11 : decode cX0_provedGrounds 11 = .ok (.getfield 18, 3) := by decide +kernel
theorem dX0_provedGrounds_14 : decode cX0_provedGrounds 14 = .ok (.iload_n 2, 1) := by decide +kernel
theorem dX0_provedGrounds_15 : decode cX0_provedGrounds 15 = .ok (.iaload, 1) := by decide +kernel
theorem dX0_provedGrounds_16 : decode cX0_provedGrounds 16 = .ok (.bipush 6, 2) := by decide +kernel
theorem dX0_provedGrounds_18 : decode cX0_provedGrounds 18 = .ok (.if_icmp .lt 9, 3) := by decide +kernel
theorem dX0_provedGrounds_21 : decode cX0_provedGrounds 21 = .ok (.iload_n 1, 1) := by decide +kernel
theorem dX0_provedGrounds_22 : decode cX0_provedGrounds 22 = .ok (.iconst 1, 1) := by decide +kernel
theorem dX0_provedGrounds_23 : decode cX0_provedGrounds 23 = .ok (.iload_n 2, 1) := by decide +kernel
theorem dX0_provedGrounds_24 : decode cX0_provedGrounds 24 = .ok (.ishl, 1) := by decide +kernel
theorem dX0_provedGrounds_25 : decode cX0_provedGrounds 25 = .ok (.ior, 1) := by decide +kernel
theorem dX0_provedGrounds_26 : decode cX0_provedGrounds 26 = .ok (.istore_n 1, 1) := by decide +kernel
theorem dX0_provedGrounds_27 : decode cX0_provedGrounds 27 = .ok (.iinc 2 1, 3) := by decide +kernel
theorem dX0_provedGrounds_30 : decode cX0_provedGrounds 30 = .ok (.goto (-26), 3) := by decide +kernel
theorem dX0_provedGrounds_33 : decode cX0_provedGrounds 33 = .ok (.iload_n 1, 1) := by decide +kernel
theorem dX0_provedGrounds_34 : decode cX0_provedGrounds 34 = .ok (.aload_n 0, 1) := by decide +kernel
theorem dX0_provedGrounds_35 : decode cX0_provedGrounds 35 = .ok (.getfield 31, 3) := by decide +kernel
theorem dX0_provedGrounds_38 : decode cX0_provedGrounds 38 = .ok (.iand, 1) := by decide +kernel
theorem dX0_provedGrounds_39 : decode cX0_provedGrounds 39 = .ok (.ireturn, 1) := by decide +kernel
def tab_X0_provedGrounds : List (Nat × Sem) := [(0, op_ic 0 1), (1, op_is 1 2), (2, op_ic 0 3), (3, op_is 2 4), (4, op_il 2 5), (5, op_ic 7 7), (7, op_cmp (fun x y => y ≤ x) 33 10), (10, op_al 0 11), (11, op_gf 2 4 14), (14, op_il 2 15), (15, op_iald 16), (16, op_ic 6 18), (18, op_cmp (fun x y => x < y) 27 21), (21, op_il 1 22), (22, op_ic 1 23), (23, op_il 2 24), (24, op_bin (fun x y => x <<< (y &&& 31)) 25), (25, op_bin (fun x y => x ||| y) 26), (26, op_is 1 27), (27, op_inc 2 1 30), (30, op_go 4), (33, op_il 1 34), (34, op_al 0 35), (35, op_gf 2 1 38), (38, op_bin (fun x y => x &&& y) 39), (39, op_iret)]
set_option maxRecDepth 20000 in
theorem tok_X0_provedGrounds : ∀ q ∈ tab_X0_provedGrounds, Snd RX0 cX0_provedGrounds 3 0 0 (some .int) q.1 q.2 := by
  unfold tab_X0_provedGrounds
  refine tcons (ok_iconst dX0_provedGrounds_0 rfl rfl) ?_
  refine tcons (ok_istore_n dX0_provedGrounds_1 rfl (by decide) rfl) ?_
  refine tcons (ok_iconst dX0_provedGrounds_2 rfl rfl) ?_
  refine tcons (ok_istore_n dX0_provedGrounds_3 rfl (by decide) rfl) ?_
  refine tcons (ok_iload_n dX0_provedGrounds_4 rfl rfl) ?_
  refine tcons (ok_bipush dX0_provedGrounds_5 rfl rfl) ?_
  refine tcons (ok_icmp_ge dX0_provedGrounds_7 rfl rfl) ?_
  refine tcons (ok_aload_n dX0_provedGrounds_10 rfl rfl) ?_
  refine tcons (ok_getfield (C := RX0) (T := TX0) (n := 7) rfl in_X0 (by decide) w_575 dX0_provedGrounds_11 rfl) ?_
  refine tcons (ok_iload_n dX0_provedGrounds_14 rfl rfl) ?_
  refine tcons (ok_iaload dX0_provedGrounds_15 rfl) ?_
  refine tcons (ok_bipush dX0_provedGrounds_16 rfl rfl) ?_
  refine tcons (ok_icmp_lt dX0_provedGrounds_18 rfl rfl) ?_
  refine tcons (ok_iload_n dX0_provedGrounds_21 rfl rfl) ?_
  refine tcons (ok_iconst dX0_provedGrounds_22 rfl rfl) ?_
  refine tcons (ok_iload_n dX0_provedGrounds_23 rfl rfl) ?_
  refine tcons (ok_ishl dX0_provedGrounds_24 rfl) ?_
  refine tcons (ok_ior dX0_provedGrounds_25 rfl) ?_
  refine tcons (ok_istore_n dX0_provedGrounds_26 rfl (by decide) rfl) ?_
  refine tcons (ok_iinc dX0_provedGrounds_27 rfl (by decide) rfl) ?_
  refine tcons (ok_goto dX0_provedGrounds_30 rfl) ?_
  refine tcons (ok_iload_n dX0_provedGrounds_33 rfl rfl) ?_
  refine tcons (ok_aload_n dX0_provedGrounds_34 rfl rfl) ?_
  refine tcons (ok_getfield (C := RX0) (T := TX0) (n := 7) rfl in_X0 (by decide) w_569 dX0_provedGrounds_35 rfl) ?_
  refine tcons (ok_iand dX0_provedGrounds_38 rfl) ?_
  refine tcons (ok_ireturn rfl dX0_provedGrounds_39) ?_
  exact fun _ h => nomatch h
def sp_X0_provedGrounds : Spc := fun av s N _ => match av with
  | [.inl (.inr (14, i))] => Lv s 14 i ∧ N (some (aI (prC s i))) s
  | _ => False
set_option maxRecDepth 20000 in
set_option maxHeartbeats 2000000 in
theorem M_X0_provedGrounds : AMet yX0_provedGrounds cX0_provedGrounds 3 (some .int) 0 0 sp_X0_provedGrounds := by
  refine AMet.mc (own := RX0) (by decide) rfl [0, 1, 2] rfl tok_X0_provedGrounds 200 ?_
  intro av s0 N X h
  unfold sp_X0_provedGrounds at h
  split at h
  rotate_left
  · exact h.elim
  rename_i i
  obtain ⟨hL, h⟩ := h
  unfold prC at h
  obtain ⟨w, hw⟩ : ∃ z, z = s0.2.1 15 i := ⟨_, rfl⟩
  rw [← hw] at h
  refine ⟨[(4, fun m u L st s => ∃ k, k ≤ 7 ∧ m = 7 - k ∧ u = 0 ∧ L = [(0, .inr (14, i)), (1, .inl (pgR w k)), (2, .inl (nI k))] ∧ st = [] ∧ s = s0)], ?_, ac ?_ an⟩
  · repeat' (first | apply And.intro | (intro q; exact absurd q (by decide)) | intro _)
    all_goals first | decide | (exact Nat.le_of_ble_eq_true rfl) | (exact ⟨7, 3, trivial, 0, by omega, rfl, rfl, rfl, rfl, rfl⟩)
  · rintro m u L st s ⟨k, hk, rfl, rfl, rfl, rfl, rfl⟩
    by_cases hkn : k < 7
    · have hle : ¬ (7 : Int32) ≤ nI k := fun q => by have := (nIge (a := k) (b := 7) (N := 30) (by omega) (by omega) (by decide)).mp q; omega
      have hb1 : Ib (nI k) 7 := nIb hkn (by decide)
      have e1 : s.2.1 15 i (nI k).toNatClampNeg = w k := by rw [nI_clamp (by omega), hw]
      clear h hw
      repeat' (first | apply And.intro | (intro q; exact absurd q (by decide)) | (intro q; exact absurd q hle) | intro _)
      all_goals first | (with_reducible exact hL) | (with_reducible exact hb1) | decide | (exact Nat.le_of_ble_eq_true rfl) | (exact hL) |
        (exact ⟨7 - (k + 1), 3, by omega, k + 1, by omega, rfl, rfl, by simp_all [-Int32.not_le, -Int32.not_lt, pgR, nIs], rfl, rfl⟩)
    · obtain rfl : k = 7 := by omega
      have hle : (7 : Int32) ≤ nI 7 := by decide
      repeat' (first | apply And.intro | (intro q; exact absurd q (by decide)) | (intro q; exact absurd hle q) | intro _)
      all_goals first | (with_reducible exact hL) | decide | (exact Nat.le_of_ble_eq_true rfl) | exact h | exact hL
def vc1 (x : Int32) : Int32 := if x = -1 then 0 else 1
def vcC (s : Sg) (i : Nat) : Int32 := (vc1 (s.2.1 16 i 0) + vc1 (s.2.1 16 i 1)) + vc1 (s.2.1 16 i 2)
theorem dX0_votesCast_0 : decode cX0_votesCast 0 = .ok (.iconst 0, 1) := by decide +kernel
theorem dX0_votesCast_1 : decode cX0_votesCast 1 = .ok (.istore_n 1, 1) := by decide +kernel
theorem dX0_votesCast_2 : decode cX0_votesCast 2 = .ok (.iconst 0, 1) := by decide +kernel
theorem dX0_votesCast_3 : decode cX0_votesCast 3 = .ok (.istore_n 2, 1) := by decide +kernel
theorem dX0_votesCast_4 : decode cX0_votesCast 4 = .ok (.iload_n 2, 1) := by decide +kernel
theorem dX0_votesCast_5 : decode cX0_votesCast 5 = .ok (.iconst 3, 1) := by decide +kernel
theorem dX0_votesCast_6 : decode cX0_votesCast 6 = .ok (.if_icmp .ge 22, 3) := by decide +kernel
theorem dX0_votesCast_9 : decode cX0_votesCast 9 = .ok (.aload_n 0, 1) := by decide +kernel
theorem dX0_votesCast_10 : decode cX0_votesCast 10 = .ok (.getfield 22, 3) := by decide +kernel
theorem dX0_votesCast_13 : decode cX0_votesCast 13 = .ok (.iload_n 2, 1) := by decide +kernel
theorem dX0_votesCast_14 : decode cX0_votesCast 14 = .ok (.iaload, 1) := by decide +kernel
theorem dX0_votesCast_15 : decode cX0_votesCast 15 = .ok (.iconst (-1), 1) := by decide +kernel
theorem dX0_votesCast_16 : decode cX0_votesCast 16 = .ok (.if_icmp .eq 6, 3) := by decide +kernel
theorem dX0_votesCast_19 : decode cX0_votesCast 19 = .ok (.iinc 1 1, 3) := by decide +kernel
theorem dX0_votesCast_22 : decode cX0_votesCast 22 = .ok (.iinc 2 1, 3) := by decide +kernel
theorem dX0_votesCast_25 : decode cX0_votesCast 25 = .ok (.goto (-21), 3) := by decide +kernel
theorem dX0_votesCast_28 : decode cX0_votesCast 28 = .ok (.iload_n 1, 1) := by decide +kernel
theorem dX0_votesCast_29 : decode cX0_votesCast 29 = .ok (.ireturn, 1) := by decide +kernel
def tab_X0_votesCast : List (Nat × Sem) := [(0, op_ic 0 1), (1, op_is 1 2), (2, op_ic 0 3), (3, op_is 2 4), (4, op_il 2 5), (5, op_ic 3 6), (6, op_cmp (fun x y => y ≤ x) 28 9), (9, op_al 0 10), (10, op_gf 2 5 13), (13, op_il 2 14), (14, op_iald 15), (15, op_ic (-1) 16), (16, op_cmp (fun x y => x = y) 22 19), (19, op_inc 1 1 22), (22, op_inc 2 1 25), (25, op_go 4), (28, op_il 1 29), (29, op_iret)]
set_option maxRecDepth 20000 in
theorem tok_X0_votesCast : ∀ q ∈ tab_X0_votesCast, Snd RX0 cX0_votesCast 3 0 0 (some .int) q.1 q.2 := by
  unfold tab_X0_votesCast
  refine tcons (ok_iconst dX0_votesCast_0 rfl rfl) ?_
  refine tcons (ok_istore_n dX0_votesCast_1 rfl (by decide) rfl) ?_
  refine tcons (ok_iconst dX0_votesCast_2 rfl rfl) ?_
  refine tcons (ok_istore_n dX0_votesCast_3 rfl (by decide) rfl) ?_
  refine tcons (ok_iload_n dX0_votesCast_4 rfl rfl) ?_
  refine tcons (ok_iconst dX0_votesCast_5 rfl rfl) ?_
  refine tcons (ok_icmp_ge dX0_votesCast_6 rfl rfl) ?_
  refine tcons (ok_aload_n dX0_votesCast_9 rfl rfl) ?_
  refine tcons (ok_getfield (C := RX0) (T := TX0) (n := 7) rfl in_X0 (by decide) w_577 dX0_votesCast_10 rfl) ?_
  refine tcons (ok_iload_n dX0_votesCast_13 rfl rfl) ?_
  refine tcons (ok_iaload dX0_votesCast_14 rfl) ?_
  refine tcons (ok_iconst dX0_votesCast_15 rfl rfl) ?_
  refine tcons (ok_icmp_eq dX0_votesCast_16 rfl rfl) ?_
  refine tcons (ok_iinc dX0_votesCast_19 rfl (by decide) rfl) ?_
  refine tcons (ok_iinc dX0_votesCast_22 rfl (by decide) rfl) ?_
  refine tcons (ok_goto dX0_votesCast_25 rfl) ?_
  refine tcons (ok_iload_n dX0_votesCast_28 rfl rfl) ?_
  refine tcons (ok_ireturn rfl dX0_votesCast_29) ?_
  exact fun _ h => nomatch h
def sp_X0_votesCast : Spc := fun av s N _ => match av with
  | [.inl (.inr (14, i))] => Lv s 14 i ∧ N (some (aI (vcC s i))) s
  | _ => False
set_option maxRecDepth 20000 in
set_option maxHeartbeats 2000000 in
theorem M_X0_votesCast : AMet yX0_votesCast cX0_votesCast 3 (some .int) 0 0 sp_X0_votesCast := by
  refine AMet.mk (own := RX0) (by decide) rfl [0, 1, 2] rfl tok_X0_votesCast 200 ?_
  intro av s0 N X h
  unfold sp_X0_votesCast at h
  split at h
  rotate_left
  · exact h.elim
  refine ⟨fun _ => none, ?_, fun pc P hP => nomatch hP⟩
  repeat' (first | apply And.intro | (intro q; exact absurd q (by decide)) | intro _)
  all_goals first | decide | (exact (rfl : (0 : Nat) = 0)) | (exact Nat.le_of_ble_eq_true rfl) | (with_reducible exact h.1) | (exact Ib_lit (by decide)) | (exact h.1) | (simp_all [-Int32.not_lt, -Int32.not_le, vcC, vc1]; done) | (simp_all [-Int32.not_lt, -Int32.not_le, ← Int32.not_le, vcC, vc1]; done) | (simp_all [vcC, vc1]; done)
theorem dX0_majority_0 : decode cX0_majority 0 = .ok (.aload_n 0, 1) := by decide +kernel
theorem dX0_majority_1 : decode cX0_majority 1 = .ok (.getfield 22, 3) := by decide +kernel
theorem dX0_majority_4 : decode cX0_majority 4 = .ok (.iconst 0, 1) := by decide +kernel
theorem dX0_majority_5 : decode cX0_majority 5 = .ok (.iaload, 1) := by decide +kernel
theorem dX0_majority_6 : decode cX0_majority 6 = .ok (.aload_n 0, 1) := by decide +kernel
theorem dX0_majority_7 : decode cX0_majority 7 = .ok (.getfield 22, 3) := by decide +kernel
theorem dX0_majority_10 : decode cX0_majority 10 = .ok (.iconst 1, 1) := by decide +kernel
theorem dX0_majority_11 : decode cX0_majority 11 = .ok (.iaload, 1) := by decide +kernel
theorem dX0_majority_12 : decode cX0_majority 12 = .ok (.iand, 1) := by decide +kernel
theorem dX0_majority_13 : decode cX0_majority 13 = .ok (.aload_n 0, 1) := by decide +kernel
theorem dX0_majority_14 : decode cX0_majority 14 = .ok (.getfield 22, 3) := by decide +kernel
theorem dX0_majority_17 : decode cX0_majority 17 = .ok (.iconst 0, 1) := by decide +kernel
theorem dX0_majority_18 : decode cX0_majority 18 = .ok (.iaload, 1) := by decide +kernel
theorem dX0_majority_19 : decode cX0_majority 19 = .ok (.aload_n 0, 1) := by decide +kernel
theorem dX0_majority_20 : decode cX0_majority 20 = .ok (.getfield 22, 3) := by decide +kernel
theorem dX0_majority_23 : decode cX0_majority 23 = .ok (.iconst 2, 1) := by decide +kernel
theorem dX0_majority_24 : decode cX0_majority 24 = .ok (.iaload, 1) := by decide +kernel
theorem dX0_majority_25 : decode cX0_majority 25 = .ok (.iand, 1) := by decide +kernel
theorem dX0_majority_26 : decode cX0_majority 26 = .ok (.ior, 1) := by decide +kernel
theorem dX0_majority_27 : decode cX0_majority 27 = .ok (.aload_n 0, 1) := by decide +kernel
theorem dX0_majority_28 : decode cX0_majority 28 = .ok (.getfield 22, 3) := by decide +kernel
theorem dX0_majority_31 : decode cX0_majority 31 = .ok (.iconst 1, 1) := by decide +kernel
theorem dX0_majority_32 : decode cX0_majority 32 = .ok (.iaload, 1) := by decide +kernel
theorem dX0_majority_33 : decode cX0_majority 33 = .ok (.aload_n 0, 1) := by decide +kernel
theorem dX0_majority_34 : decode cX0_majority 34 = .ok (.getfield 22, 3) := by decide +kernel
theorem dX0_majority_37 : decode cX0_majority 37 = .ok (.iconst 2, 1) := by decide +kernel
theorem dX0_majority_38 : decode cX0_majority 38 = .ok (.iaload, 1) := by decide +kernel
theorem dX0_majority_39 : decode cX0_majority 39 = .ok (.iand, 1) := by decide +kernel
theorem dX0_majority_40 : decode cX0_majority 40 = .ok (.ior, 1) := by decide +kernel
theorem dX0_majority_41 : decode cX0_majority 41 = .ok (.ireturn, 1) := by decide +kernel
def tab_X0_majority : List (Nat × Sem) := [(0, op_al 0 1), (1, op_gf 2 5 4), (4, op_ic 0 5), (5, op_iald 6), (6, op_al 0 7), (7, op_gf 2 5 10), (10, op_ic 1 11), (11, op_iald 12), (12, op_bin (fun x y => x &&& y) 13), (13, op_al 0 14), (14, op_gf 2 5 17), (17, op_ic 0 18), (18, op_iald 19), (19, op_al 0 20), (20, op_gf 2 5 23), (23, op_ic 2 24), (24, op_iald 25), (25, op_bin (fun x y => x &&& y) 26), (26, op_bin (fun x y => x ||| y) 27), (27, op_al 0 28), (28, op_gf 2 5 31), (31, op_ic 1 32), (32, op_iald 33), (33, op_al 0 34), (34, op_gf 2 5 37), (37, op_ic 2 38), (38, op_iald 39), (39, op_bin (fun x y => x &&& y) 40), (40, op_bin (fun x y => x ||| y) 41), (41, op_iret)]
set_option maxRecDepth 20000 in
theorem tok_X0_majority : ∀ q ∈ tab_X0_majority, Snd RX0 cX0_majority 1 0 0 (some .int) q.1 q.2 := by
  unfold tab_X0_majority
  refine tcons (ok_aload_n dX0_majority_0 rfl rfl) ?_
  refine tcons (ok_getfield (C := RX0) (T := TX0) (n := 7) rfl in_X0 (by decide) w_577 dX0_majority_1 rfl) ?_
  refine tcons (ok_iconst dX0_majority_4 rfl rfl) ?_
  refine tcons (ok_iaload dX0_majority_5 rfl) ?_
  refine tcons (ok_aload_n dX0_majority_6 rfl rfl) ?_
  refine tcons (ok_getfield (C := RX0) (T := TX0) (n := 7) rfl in_X0 (by decide) w_577 dX0_majority_7 rfl) ?_
  refine tcons (ok_iconst dX0_majority_10 rfl rfl) ?_
  refine tcons (ok_iaload dX0_majority_11 rfl) ?_
  refine tcons (ok_iand dX0_majority_12 rfl) ?_
  refine tcons (ok_aload_n dX0_majority_13 rfl rfl) ?_
  refine tcons (ok_getfield (C := RX0) (T := TX0) (n := 7) rfl in_X0 (by decide) w_577 dX0_majority_14 rfl) ?_
  refine tcons (ok_iconst dX0_majority_17 rfl rfl) ?_
  refine tcons (ok_iaload dX0_majority_18 rfl) ?_
  refine tcons (ok_aload_n dX0_majority_19 rfl rfl) ?_
  refine tcons (ok_getfield (C := RX0) (T := TX0) (n := 7) rfl in_X0 (by decide) w_577 dX0_majority_20 rfl) ?_
  refine tcons (ok_iconst dX0_majority_23 rfl rfl) ?_
  refine tcons (ok_iaload dX0_majority_24 rfl) ?_
  refine tcons (ok_iand dX0_majority_25 rfl) ?_
  refine tcons (ok_ior dX0_majority_26 rfl) ?_
  refine tcons (ok_aload_n dX0_majority_27 rfl rfl) ?_
  refine tcons (ok_getfield (C := RX0) (T := TX0) (n := 7) rfl in_X0 (by decide) w_577 dX0_majority_28 rfl) ?_
  refine tcons (ok_iconst dX0_majority_31 rfl rfl) ?_
  refine tcons (ok_iaload dX0_majority_32 rfl) ?_
  refine tcons (ok_aload_n dX0_majority_33 rfl rfl) ?_
  refine tcons (ok_getfield (C := RX0) (T := TX0) (n := 7) rfl in_X0 (by decide) w_577 dX0_majority_34 rfl) ?_
  refine tcons (ok_iconst dX0_majority_37 rfl rfl) ?_
  refine tcons (ok_iaload dX0_majority_38 rfl) ?_
  refine tcons (ok_iand dX0_majority_39 rfl) ?_
  refine tcons (ok_ior dX0_majority_40 rfl) ?_
  refine tcons (ok_ireturn rfl dX0_majority_41) ?_
  exact fun _ h => nomatch h
def sp_X0_majority : Spc := fun av s N _ => match av with
  | [.inl (.inr (14, i))] => Lv s 14 i ∧ N (some (aI (maj3 (s.2.1 16 i 0) (s.2.1 16 i 1) (s.2.1 16 i 2)))) s
  | _ => False
set_option maxRecDepth 20000 in
set_option maxHeartbeats 2000000 in
theorem M_X0_majority : AMet yX0_majority cX0_majority 1 (some .int) 0 0 sp_X0_majority := by
  refine AMet.mk (own := RX0) (by decide) rfl [0] rfl tok_X0_majority 200 ?_
  intro av s0 N X h
  unfold sp_X0_majority at h
  split at h
  rotate_left
  · exact h.elim
  refine ⟨fun _ => none, ?_, fun pc P hP => nomatch hP⟩
  repeat' (first | apply And.intro | (intro q; exact absurd q (by decide)) | intro _)
  all_goals first | decide | (exact (rfl : (0 : Nat) = 0)) | (exact Nat.le_of_ble_eq_true rfl) | (with_reducible exact h.1) | (exact Ib_lit (by decide)) | (exact h.1) | (simp_all [-Int32.not_lt, -Int32.not_le, maj3]; done) | (simp_all [-Int32.not_lt, -Int32.not_le, ← Int32.not_le, maj3]; done) | (simp_all [maj3]; done)
theorem dX0_reopen_0 : decode cX0_reopen 0 = .ok (.aload_n 0, 1) := by decide +kernel
theorem dX0_reopen_1 : decode cX0_reopen 1 = .ok (.dup, 1) := by decide +kernel
theorem dX0_reopen_2 : decode cX0_reopen 2 = .ok (.getfield 15, 3) := by decide +kernel
theorem dX0_reopen_5 : decode cX0_reopen 5 = .ok (.iconst 1, 1) := by decide +kernel
theorem dX0_reopen_6 : decode cX0_reopen 6 = .ok (.iadd, 1) := by decide +kernel
theorem dX0_reopen_7 : decode cX0_reopen 7 = .ok (.putfield 15, 3) := by decide +kernel
theorem dX0_reopen_10 : decode cX0_reopen 10 = .ok (.aload_n 0, 1) := by decide +kernel
theorem dX0_reopen_11 : decode cX0_reopen 11 = .ok (.iconst 0, 1) := by decide +kernel
theorem dX0_reopen_12 : decode cX0_reopen 12 = .ok (.putfield 9, 3) := by decide +kernel
theorem dX0_reopen_15 : decode cX0_reopen 15 = .ok (.aload_n 0, 1) := by decide +kernel
theorem dX0_reopen_16 : decode cX0_reopen 16 = .ok (.getfield 22, 3) := by decide +kernel
theorem dX0_reopen_19 : decode cX0_reopen 19 = .ok (.iconst (-1), 1) := by decide +kernel
theorem dX0_reopen_20 : decode cX0_reopen 20 = .ok (.invokestatic 34, 3) := by decide +kernel
theorem dX0_reopen_23 : decode cX0_reopen 23 = .ok (.return_, 1) := by decide +kernel
def tab_X0_reopen : List (Nat × Sem) := [(0, op_al 0 1), (1, op_dup 2), (2, op_gf 2 3 5), (5, op_ic 1 6), (6, op_bin (fun x y => x + y) 7), (7, op_pf 2 3 10), (10, op_al 0 11), (11, op_ic 0 12), (12, op_pf 2 2 15), (15, op_al 0 16), (16, op_gf 2 5 19), (19, op_ic (-1) 20), (20, op_call sp_J7_fill_53178 2 0 23), (23, op_vret)]
set_option maxRecDepth 20000 in
theorem tok_X0_reopen : ∀ q ∈ tab_X0_reopen, Snd RX0 cX0_reopen 1 1 0 none q.1 q.2 := by
  unfold tab_X0_reopen
  refine tcons (ok_aload_n dX0_reopen_0 rfl rfl) ?_
  refine tcons (ok_dup dX0_reopen_1 rfl) ?_
  refine tcons (ok_getfield (C := RX0) (T := TX0) (n := 7) rfl in_X0 (by decide) w_573 dX0_reopen_2 rfl) ?_
  refine tcons (ok_iconst dX0_reopen_5 rfl rfl) ?_
  refine tcons (ok_iadd dX0_reopen_6 rfl) ?_
  refine tcons (ok_putfield (C := RX0) (T := TX0) (n := 7) tyX0 .int rfl in_X0 tyX0_ok nmX0 (by decide) rfl w_573 rfl (Or.inl rfl) dX0_reopen_7 rfl) ?_
  refine tcons (ok_aload_n dX0_reopen_10 rfl rfl) ?_
  refine tcons (ok_iconst dX0_reopen_11 rfl rfl) ?_
  refine tcons (ok_putfield (C := RX0) (T := TX0) (n := 7) tyX0 .int rfl in_X0 tyX0_ok nmX0 (by decide) rfl w_571 rfl (Or.inl rfl) dX0_reopen_12 rfl) ?_
  refine tcons (ok_aload_n dX0_reopen_15 rfl rfl) ?_
  refine tcons (ok_getfield (C := RX0) (T := TX0) (n := 7) rfl in_X0 (by decide) w_577 dX0_reopen_16 rfl) ?_
  refine tcons (ok_iconst dX0_reopen_19 rfl rfl) ?_
  refine tcons (ok_invokestatic M_J7_fill_53178 w_566 w_90 w_25 w_91 ⟨by decide, by decide, by decide +kernel⟩ (by decide) (by decide) dX0_reopen_20 rfl) ?_
  refine tcons (ok_vreturn rfl dX0_reopen_23) ?_
  exact fun _ h => nomatch h
def reoC (s : Sg) (i : Nat) : Sg := stI (stS (stS s 14 i 3 (s.2.1 14 i 3 + 1)) 14 i 2 0) 16 i 3 (-1)
def sp_X0_reopen : Spc := fun av s N _ => match av with
  | [.inl (.inr (14, i))] => Lv s 14 i ∧ N none (reoC s i)
  | _ => False
set_option maxRecDepth 20000 in
set_option maxHeartbeats 2000000 in
theorem M_X0_reopen : AMet yX0_reopen cX0_reopen 1 none 1 0 sp_X0_reopen := by
  refine AMet.mk (own := RX0) (by decide) rfl [0] rfl tok_X0_reopen 200 ?_
  intro av s0 N X h
  unfold sp_X0_reopen at h
  split at h
  rotate_left
  · exact h.elim
  refine ⟨fun _ => none, ?_, fun pc P hP => nomatch hP⟩
  repeat' (first | apply And.intro | (intro q; exact absurd q (by decide)) | intro _)
  all_goals first | decide | (exact (rfl : (0 : Nat) = 0)) | (exact Nat.le_of_ble_eq_true rfl) | (with_reducible exact h.1) | (exact h.1) | (exact h.2)
def likeC (a b : Int32) : Prop := (a = 0 ∧ b = 0) ∨ ¬ a &&& b = 0 ∨ (¬ a &&& 96 = 0 ∧ ¬ b &&& 96 = 0)
theorem dX0_alike_0 : decode cX0_alike 0 = .ok (.iload_n 0, 1) := by decide +kernel
theorem dX0_alike_1 : decode cX0_alike 1 = .ok (.ifCond .ne 9, 3) := by decide +kernel
theorem dX0_alike_4 : decode cX0_alike 4 = .ok (.iload_n 1, 1) := by decide +kernel
theorem dX0_alike_5 : decode cX0_alike 5 = .ok (.ifCond .ne 5, 3) := by decide +kernel
theorem dX0_alike_8 : decode cX0_alike 8 = .ok (.iconst 1, 1) := by decide +kernel
theorem dX0_alike_9 : decode cX0_alike 9 = .ok (.ireturn, 1) := by decide +kernel
theorem dX0_alike_10 : decode cX0_alike 10 = .ok (.iload_n 0, 1) := by decide +kernel
theorem dX0_alike_11 : decode cX0_alike 11 = .ok (.bipush 96, 2) := by decide +kernel
theorem dX0_alike_13 : decode cX0_alike 13 = .ok (.iand, 1) := by decide +kernel
theorem dX0_alike_14 : decode cX0_alike 14 = .ok (.ifCond .eq 14, 3) := by decide +kernel
theorem dX0_alike_17 : decode cX0_alike 17 = .ok (.iload_n 1, 1) := by decide +kernel
theorem dX0_alike_18 : decode cX0_alike 18 = .ok (.bipush 96, 2) := by decide +kernel
theorem dX0_alike_20 : decode cX0_alike 20 = .ok (.iand, 1) := by decide +kernel
theorem dX0_alike_21 : decode cX0_alike 21 = .ok (.ifCond .eq 7, 3) := by decide +kernel
theorem dX0_alike_24 : decode cX0_alike 24 = .ok (.iconst 1, 1) := by decide +kernel
theorem dX0_alike_25 : decode cX0_alike 25 = .ok (.goto 4, 3) := by decide +kernel
theorem dX0_alike_28 : decode cX0_alike 28 = .ok (.iconst 0, 1) := by decide +kernel
theorem dX0_alike_29 : decode cX0_alike 29 = .ok (.istore_n 2, 1) := by decide +kernel
theorem dX0_alike_30 : decode cX0_alike 30 = .ok (.iload_n 0, 1) := by decide +kernel
theorem dX0_alike_31 : decode cX0_alike 31 = .ok (.iload_n 1, 1) := by decide +kernel
theorem dX0_alike_32 : decode cX0_alike 32 = .ok (.iand, 1) := by decide +kernel
theorem dX0_alike_33 : decode cX0_alike 33 = .ok (.ifCond .ne 7, 3) := by decide +kernel
theorem dX0_alike_36 : decode cX0_alike 36 = .ok (.iload_n 2, 1) := by decide +kernel
theorem dX0_alike_37 : decode cX0_alike 37 = .ok (.ifCond .eq 7, 3) := by decide +kernel
theorem dX0_alike_40 : decode cX0_alike 40 = .ok (.iconst 1, 1) := by decide +kernel
theorem dX0_alike_41 : decode cX0_alike 41 = .ok (.goto 4, 3) := by decide +kernel
theorem dX0_alike_44 : decode cX0_alike 44 = .ok (.iconst 0, 1) := by decide +kernel
theorem dX0_alike_45 : decode cX0_alike 45 = .ok (.ireturn, 1) := by decide +kernel
def tab_X0_alike : List (Nat × Sem) := [(0, op_il 0 1), (1, op_if (fun x => ¬ x = 0) 10 4), (4, op_il 1 5), (5, op_if (fun x => ¬ x = 0) 10 8), (8, op_ic 1 9), (9, op_zret), (10, op_il 0 11), (11, op_ic 96 13), (13, op_bin (fun x y => x &&& y) 14), (14, op_if (fun x => x = 0) 28 17), (17, op_il 1 18), (18, op_ic 96 20), (20, op_bin (fun x y => x &&& y) 21), (21, op_if (fun x => x = 0) 28 24), (24, op_ic 1 25), (25, op_go 29), (28, op_ic 0 29), (29, op_is 2 30), (30, op_il 0 31), (31, op_il 1 32), (32, op_bin (fun x y => x &&& y) 33), (33, op_if (fun x => ¬ x = 0) 40 36), (36, op_il 2 37), (37, op_if (fun x => x = 0) 44 40), (40, op_ic 1 41), (41, op_go 45), (44, op_ic 0 45), (45, op_zret)]
set_option maxRecDepth 20000 in
theorem tok_X0_alike : ∀ q ∈ tab_X0_alike, Snd RX0 cX0_alike 3 0 0 (some .boolean) q.1 q.2 := by
  unfold tab_X0_alike
  refine tcons (ok_iload_n dX0_alike_0 rfl rfl) ?_
  refine tcons (ok_if_ne dX0_alike_1 rfl rfl) ?_
  refine tcons (ok_iload_n dX0_alike_4 rfl rfl) ?_
  refine tcons (ok_if_ne dX0_alike_5 rfl rfl) ?_
  refine tcons (ok_iconst dX0_alike_8 rfl rfl) ?_
  refine tcons (ok_zreturn rfl (Or.inl rfl) dX0_alike_9) ?_
  refine tcons (ok_iload_n dX0_alike_10 rfl rfl) ?_
  refine tcons (ok_bipush dX0_alike_11 rfl rfl) ?_
  refine tcons (ok_iand dX0_alike_13 rfl) ?_
  refine tcons (ok_if_eq dX0_alike_14 rfl rfl) ?_
  refine tcons (ok_iload_n dX0_alike_17 rfl rfl) ?_
  refine tcons (ok_bipush dX0_alike_18 rfl rfl) ?_
  refine tcons (ok_iand dX0_alike_20 rfl) ?_
  refine tcons (ok_if_eq dX0_alike_21 rfl rfl) ?_
  refine tcons (ok_iconst dX0_alike_24 rfl rfl) ?_
  refine tcons (ok_goto dX0_alike_25 rfl) ?_
  refine tcons (ok_iconst dX0_alike_28 rfl rfl) ?_
  refine tcons (ok_istore_n dX0_alike_29 rfl (by decide) rfl) ?_
  refine tcons (ok_iload_n dX0_alike_30 rfl rfl) ?_
  refine tcons (ok_iload_n dX0_alike_31 rfl rfl) ?_
  refine tcons (ok_iand dX0_alike_32 rfl) ?_
  refine tcons (ok_if_ne dX0_alike_33 rfl rfl) ?_
  refine tcons (ok_iload_n dX0_alike_36 rfl rfl) ?_
  refine tcons (ok_if_eq dX0_alike_37 rfl rfl) ?_
  refine tcons (ok_iconst dX0_alike_40 rfl rfl) ?_
  refine tcons (ok_goto dX0_alike_41 rfl) ?_
  refine tcons (ok_iconst dX0_alike_44 rfl rfl) ?_
  refine tcons (ok_zreturn rfl (Or.inl rfl) dX0_alike_45) ?_
  exact fun _ h => nomatch h
def sp_X0_alike : Spc := fun av s N _ => match av with
  | [.inl (.inl a), .inl (.inl b)] => br (likeC a b) N s
  | _ => False
set_option maxRecDepth 20000 in
set_option maxHeartbeats 2000000 in
theorem M_X0_alike : AMet yX0_alike cX0_alike 3 (some .boolean) 0 0 sp_X0_alike := by
  refine AMet.mk (own := RX0) (by decide) rfl [0, 1, 2] rfl tok_X0_alike 200 ?_
  intro av s0 N X h
  unfold sp_X0_alike at h
  split at h
  rotate_left
  · exact h.elim
  refine ⟨fun _ => none, ?_, fun pc P hP => nomatch hP⟩
  repeat' (first | apply And.intro | (intro q; exact absurd q (by decide)) | intro _)
  all_goals first | decide | (exact (rfl : (0 : Nat) = 0)) | (exact Nat.le_of_ble_eq_true rfl) | (simp_all [-Int32.not_lt, -Int32.not_le, br, likeC]; done) | (simp_all [-Int32.not_lt, -Int32.not_le, ← Int32.not_le, br, likeC]; done) | (simp_all [br, likeC]; done)
theorem dX0_concludeFirst_0 : decode cX0_concludeFirst 0 = .ok (.aload_n 0, 1) := by decide +kernel
theorem dX0_concludeFirst_1 : decode cX0_concludeFirst 1 = .ok (.getfield 25, 3) := by decide +kernel
theorem dX0_concludeFirst_4 : decode cX0_concludeFirst 4 = .ok (.iconst 0, 1) := by decide +kernel
theorem dX0_concludeFirst_5 : decode cX0_concludeFirst 5 = .ok (.iload_n 1, 1) := by decide +kernel
theorem dX0_concludeFirst_6 : decode cX0_concludeFirst 6 = .ok (.iastore, 1) := by decide +kernel
theorem dX0_concludeFirst_7 : decode cX0_concludeFirst 7 = .ok (.iload_n 1, 1) := by decide +kernel
theorem dX0_concludeFirst_8 : decode cX0_concludeFirst 8 = .ok (.ifCond .ne 11, 3) := by decide +kernel
theorem dX0_concludeFirst_11 : decode cX0_concludeFirst 11 = .ok (.aload_n 0, 1) := by decide +kernel
theorem dX0_concludeFirst_12 : decode cX0_concludeFirst 12 = .ok (.iconst 3, 1) := by decide +kernel
theorem dX0_concludeFirst_13 : decode cX0_concludeFirst 13 = .ok (.putfield 9, 3) := by decide +kernel
theorem dX0_concludeFirst_16 : decode cX0_concludeFirst 16 = .ok (.goto 7, 3) := by decide +kernel
theorem dX0_concludeFirst_19 : decode cX0_concludeFirst 19 = .ok (.aload_n 0, 1) := by decide +kernel
theorem dX0_concludeFirst_20 : decode cX0_concludeFirst 20 = .ok (.invokevirtual 50, 3) := by decide +kernel
theorem dX0_concludeFirst_23 : decode cX0_concludeFirst 23 = .ok (.return_, 1) := by decide +kernel
def tab_X0_concludeFirst : List (Nat × Sem) := [(0, op_al 0 1), (1, op_gf 2 6 4), (4, op_ic 0 5), (5, op_il 1 6), (6, op_iast 7), (7, op_il 1 8), (8, op_if (fun x => ¬ x = 0) 19 11), (11, op_al 0 12), (12, op_ic 3 13), (13, op_pf 2 2 16), (16, op_go 23), (19, op_al 0 20), (20, op_callV 2 sp_X0_reopen 1 0 23), (23, op_vret)]
set_option maxRecDepth 20000 in
theorem tok_X0_concludeFirst : ∀ q ∈ tab_X0_concludeFirst, Snd RX0 cX0_concludeFirst 2 2 0 none q.1 q.2 := by
  unfold tab_X0_concludeFirst
  refine tcons (ok_aload_n dX0_concludeFirst_0 rfl rfl) ?_
  refine tcons (ok_getfield (C := RX0) (T := TX0) (n := 7) rfl in_X0 (by decide) w_579 dX0_concludeFirst_1 rfl) ?_
  refine tcons (ok_iconst dX0_concludeFirst_4 rfl rfl) ?_
  refine tcons (ok_iload_n dX0_concludeFirst_5 rfl rfl) ?_
  refine tcons (ok_iastore dX0_concludeFirst_6 rfl) ?_
  refine tcons (ok_iload_n dX0_concludeFirst_7 rfl rfl) ?_
  refine tcons (ok_if_ne dX0_concludeFirst_8 rfl rfl) ?_
  refine tcons (ok_aload_n dX0_concludeFirst_11 rfl rfl) ?_
  refine tcons (ok_iconst dX0_concludeFirst_12 rfl rfl) ?_
  refine tcons (ok_putfield (C := RX0) (T := TX0) (n := 7) tyX0 .int rfl in_X0 tyX0_ok nmX0 (by decide) rfl w_571 rfl (Or.inl rfl) dX0_concludeFirst_13 rfl) ?_
  refine tcons (ok_goto dX0_concludeFirst_16 rfl) ?_
  refine tcons (ok_aload_n dX0_concludeFirst_19 rfl rfl) ?_
  refine tcons (ok_invokevirtual M_X0_reopen (C := RX0) (T := TX0) (nf := 7) rfl w_640 w_641 w_642 w_39 w_643 ⟨rfl, by decide, by decide, by decide +kernel⟩ (by decide) (by decide) dX0_concludeFirst_20 rfl) ?_
  refine tcons (ok_vreturn rfl dX0_concludeFirst_23) ?_
  exact fun _ h => nomatch h
noncomputable def cfC (s : Sg) (i : Nat) (d : Int32) : Sg := iteP (d = 0) (stS (stS s 17 i 0 d) 14 i 2 3) (reoC (stS s 17 i 0 d) i)
def sp_X0_concludeFirst : Spc := fun av s N _ => match av with
  | [.inl (.inr (14, i)), .inl (.inl d)] => Lv s 14 i ∧ N none (cfC s i d)
  | _ => False
set_option maxRecDepth 20000 in
set_option maxHeartbeats 2000000 in
theorem M_X0_concludeFirst : AMet yX0_concludeFirst cX0_concludeFirst 2 none 2 0 sp_X0_concludeFirst := by
  refine AMet.mk (own := RX0) (by decide) rfl [0, 1] rfl tok_X0_concludeFirst 200 ?_
  intro av s0 N X h
  unfold sp_X0_concludeFirst at h
  split at h
  rotate_left
  · exact h.elim
  refine ⟨fun _ => none, ?_, fun pc P hP => nomatch hP⟩
  repeat' (first | apply And.intro | (intro q; exact absurd q (by decide)) | intro _)
  all_goals first | decide | (exact (rfl : (0 : Nat) = 0)) | (exact Nat.le_of_ble_eq_true rfl) | (with_reducible exact h.1) | (exact Ib_lit (by decide)) | (exact h.1) | (simp_all [-Int32.not_lt, -Int32.not_le, cfC, iteP]; done) | (simp_all [-Int32.not_lt, -Int32.not_le, ← Int32.not_le, cfC, iteP]; done) | (simp_all [cfC, iteP]; done)
theorem dX0_concludeSecond_0 : decode cX0_concludeSecond 0 = .ok (.aload_n 0, 1) := by decide +kernel
theorem dX0_concludeSecond_1 : decode cX0_concludeSecond 1 = .ok (.getfield 25, 3) := by decide +kernel
theorem dX0_concludeSecond_4 : decode cX0_concludeSecond 4 = .ok (.iconst 1, 1) := by decide +kernel
theorem dX0_concludeSecond_5 : decode cX0_concludeSecond 5 = .ok (.iload_n 1, 1) := by decide +kernel
theorem dX0_concludeSecond_6 : decode cX0_concludeSecond 6 = .ok (.iastore, 1) := by decide +kernel
theorem dX0_concludeSecond_7 : decode cX0_concludeSecond 7 = .ok (.iload_n 1, 1) := by decide +kernel
theorem dX0_concludeSecond_8 : decode cX0_concludeSecond 8 = .ok (.aload_n 0, 1) := by decide +kernel
theorem dX0_concludeSecond_9 : decode cX0_concludeSecond 9 = .ok (.getfield 25, 3) := by decide +kernel
theorem dX0_concludeSecond_12 : decode cX0_concludeSecond 12 = .ok (.iconst 0, 1) := by decide +kernel
theorem dX0_concludeSecond_13 : decode cX0_concludeSecond 13 = .ok (.iaload, 1) := by decide +kernel
theorem dX0_concludeSecond_14 : decode cX0_concludeSecond 14 = .ok (.invokestatic 53, 3) := by decide +kernel
theorem dX0_concludeSecond_17 : decode cX0_concludeSecond 17 = .ok (.ifCond .eq 19, 3) := by decide +kernel
theorem dX0_concludeSecond_20 : decode cX0_concludeSecond 20 = .ok (.aload_n 0, 1) := by decide +kernel
theorem dX0_concludeSecond_21 : decode cX0_concludeSecond 21 = .ok (.iload_n 1, 1) := by decide +kernel
theorem dX0_concludeSecond_22 : decode cX0_concludeSecond 22 = .ok (.ifCond .eq 7, 3) := by decide +kernel
theorem dX0_concludeSecond_25 : decode cX0_concludeSecond 25 = .ok (.iconst 2, 1) := by decide +kernel
theorem dX0_concludeSecond_26 : decode cX0_concludeSecond 26 = .ok (.goto 4, 3) := by decide +kernel
theorem dX0_concludeSecond_29 : decode cX0_concludeSecond 29 = .ok (.iconst 3, 1) := by decide +kernel
theorem dX0_concludeSecond_30 : decode cX0_concludeSecond 30 = .ok (.putfield 9, 3) := by decide +kernel
theorem dX0_concludeSecond_33 : decode cX0_concludeSecond 33 = .ok (.goto 7, 3) := by decide +kernel
theorem dX0_concludeSecond_36 : decode cX0_concludeSecond 36 = .ok (.aload_n 0, 1) := by decide +kernel
theorem dX0_concludeSecond_37 : decode cX0_concludeSecond 37 = .ok (.invokevirtual 50, 3) := by decide +kernel
theorem dX0_concludeSecond_40 : decode cX0_concludeSecond 40 = .ok (.return_, 1) := by decide +kernel
def tab_X0_concludeSecond : List (Nat × Sem) := [(0, op_al 0 1), (1, op_gf 2 6 4), (4, op_ic 1 5), (5, op_il 1 6), (6, op_iast 7), (7, op_il 1 8), (8, op_al 0 9), (9, op_gf 2 6 12), (12, op_ic 0 13), (13, op_iald 14), (14, op_call sp_X0_alike 2 0 17), (17, op_if (fun x => x = 0) 36 20), (20, op_al 0 21), (21, op_il 1 22), (22, op_if (fun x => x = 0) 29 25), (25, op_ic 2 26), (26, op_go 30), (29, op_ic 3 30), (30, op_pf 2 2 33), (33, op_go 40), (36, op_al 0 37), (37, op_callV 2 sp_X0_reopen 1 0 40), (40, op_vret)]
set_option maxRecDepth 20000 in
theorem tok_X0_concludeSecond : ∀ q ∈ tab_X0_concludeSecond, Snd RX0 cX0_concludeSecond 2 2 0 none q.1 q.2 := by
  unfold tab_X0_concludeSecond
  refine tcons (ok_aload_n dX0_concludeSecond_0 rfl rfl) ?_
  refine tcons (ok_getfield (C := RX0) (T := TX0) (n := 7) rfl in_X0 (by decide) w_579 dX0_concludeSecond_1 rfl) ?_
  refine tcons (ok_iconst dX0_concludeSecond_4 rfl rfl) ?_
  refine tcons (ok_iload_n dX0_concludeSecond_5 rfl rfl) ?_
  refine tcons (ok_iastore dX0_concludeSecond_6 rfl) ?_
  refine tcons (ok_iload_n dX0_concludeSecond_7 rfl rfl) ?_
  refine tcons (ok_aload_n dX0_concludeSecond_8 rfl rfl) ?_
  refine tcons (ok_getfield (C := RX0) (T := TX0) (n := 7) rfl in_X0 (by decide) w_579 dX0_concludeSecond_9 rfl) ?_
  refine tcons (ok_iconst dX0_concludeSecond_12 rfl rfl) ?_
  refine tcons (ok_iaload dX0_concludeSecond_13 rfl) ?_
  refine tcons (ok_invokestatic M_X0_alike w_648 w_649 w_39 w_650 ⟨by decide, by decide, by decide +kernel⟩ (by decide) (by decide) dX0_concludeSecond_14 rfl) ?_
  refine tcons (ok_if_eq dX0_concludeSecond_17 rfl rfl) ?_
  refine tcons (ok_aload_n dX0_concludeSecond_20 rfl rfl) ?_
  refine tcons (ok_iload_n dX0_concludeSecond_21 rfl rfl) ?_
  refine tcons (ok_if_eq dX0_concludeSecond_22 rfl rfl) ?_
  refine tcons (ok_iconst dX0_concludeSecond_25 rfl rfl) ?_
  refine tcons (ok_goto dX0_concludeSecond_26 rfl) ?_
  refine tcons (ok_iconst dX0_concludeSecond_29 rfl rfl) ?_
  refine tcons (ok_putfield (C := RX0) (T := TX0) (n := 7) tyX0 .int rfl in_X0 tyX0_ok nmX0 (by decide) rfl w_571 rfl (Or.inl rfl) dX0_concludeSecond_30 rfl) ?_
  refine tcons (ok_goto dX0_concludeSecond_33 rfl) ?_
  refine tcons (ok_aload_n dX0_concludeSecond_36 rfl rfl) ?_
  refine tcons (ok_invokevirtual M_X0_reopen (C := RX0) (T := TX0) (nf := 7) rfl w_640 w_641 w_642 w_39 w_643 ⟨rfl, by decide, by decide, by decide +kernel⟩ (by decide) (by decide) dX0_concludeSecond_37 rfl) ?_
  refine tcons (ok_vreturn rfl dX0_concludeSecond_40) ?_
  exact fun _ h => nomatch h
noncomputable def csC (s : Sg) (i : Nat) (d : Int32) : Sg := iteP (likeC d (s.2.1 17 i 0)) (stS (stS s 17 i 1 d) 14 i 2 (if d = 0 then 3 else 2)) (reoC (stS s 17 i 1 d) i)
def sp_X0_concludeSecond : Spc := fun av s N _ => match av with
  | [.inl (.inr (14, i)), .inl (.inl d)] => Lv s 14 i ∧ N none (csC s i d)
  | _ => False
set_option maxRecDepth 20000 in
set_option maxHeartbeats 2000000 in
theorem M_X0_concludeSecond : AMet yX0_concludeSecond cX0_concludeSecond 2 none 2 0 sp_X0_concludeSecond := by
  refine AMet.mk (own := RX0) (by decide) rfl [0, 1] rfl tok_X0_concludeSecond 200 ?_
  intro av s0 N X h
  unfold sp_X0_concludeSecond at h
  split at h
  rotate_left
  · exact h.elim
  refine ⟨fun _ => none, ?_, fun pc P hP => nomatch hP⟩
  repeat' (first | apply And.intro | (intro q; exact absurd q (by decide)) | intro _)
  all_goals first | decide | (exact (rfl : (0 : Nat) = 0)) | (exact Nat.le_of_ble_eq_true rfl) | (with_reducible exact h.1) | (exact Ib_lit (by decide)) | (exact h.1) | (simp_all [-Int32.not_lt, -Int32.not_le, csC, iteP, stS_get]; done) | (simp_all [-Int32.not_lt, -Int32.not_le, ← Int32.not_le, csC, iteP, stS_get]; done) | (simp_all [csC, iteP, stS_get]; done)
theorem dX0_concludeThird_0 : decode cX0_concludeThird 0 = .ok (.aload_n 0, 1) := by decide +kernel
theorem dX0_concludeThird_1 : decode cX0_concludeThird 1 = .ok (.getfield 25, 3) := by decide +kernel
theorem dX0_concludeThird_4 : decode cX0_concludeThird 4 = .ok (.iconst 2, 1) := by decide +kernel
theorem dX0_concludeThird_5 : decode cX0_concludeThird 5 = .ok (.iload_n 1, 1) := by decide +kernel
theorem dX0_concludeThird_6 : decode cX0_concludeThird 6 = .ok (.iastore, 1) := by decide +kernel
theorem dX0_concludeThird_7 : decode cX0_concludeThird 7 = .ok (.iload_n 1, 1) := by decide +kernel
theorem dX0_concludeThird_8 : decode cX0_concludeThird 8 = .ok (.aload_n 0, 1) := by decide +kernel
theorem dX0_concludeThird_9 : decode cX0_concludeThird 9 = .ok (.getfield 25, 3) := by decide +kernel
theorem dX0_concludeThird_12 : decode cX0_concludeThird 12 = .ok (.iconst 0, 1) := by decide +kernel
theorem dX0_concludeThird_13 : decode cX0_concludeThird 13 = .ok (.iaload, 1) := by decide +kernel
theorem dX0_concludeThird_14 : decode cX0_concludeThird 14 = .ok (.invokestatic 53, 3) := by decide +kernel
theorem dX0_concludeThird_17 : decode cX0_concludeThird 17 = .ok (.ifCond .ne 16, 3) := by decide +kernel
theorem dX0_concludeThird_20 : decode cX0_concludeThird 20 = .ok (.iload_n 1, 1) := by decide +kernel
theorem dX0_concludeThird_21 : decode cX0_concludeThird 21 = .ok (.aload_n 0, 1) := by decide +kernel
theorem dX0_concludeThird_22 : decode cX0_concludeThird 22 = .ok (.getfield 25, 3) := by decide +kernel
theorem dX0_concludeThird_25 : decode cX0_concludeThird 25 = .ok (.iconst 1, 1) := by decide +kernel
theorem dX0_concludeThird_26 : decode cX0_concludeThird 26 = .ok (.iaload, 1) := by decide +kernel
theorem dX0_concludeThird_27 : decode cX0_concludeThird 27 = .ok (.invokestatic 53, 3) := by decide +kernel
theorem dX0_concludeThird_30 : decode cX0_concludeThird 30 = .ok (.ifCond .eq 7, 3) := by decide +kernel
theorem dX0_concludeThird_33 : decode cX0_concludeThird 33 = .ok (.iconst 1, 1) := by decide +kernel
theorem dX0_concludeThird_34 : decode cX0_concludeThird 34 = .ok (.goto 4, 3) := by decide +kernel
theorem dX0_concludeThird_37 : decode cX0_concludeThird 37 = .ok (.iconst 0, 1) := by decide +kernel
theorem dX0_concludeThird_38 : decode cX0_concludeThird 38 = .ok (.istore_n 2, 1) := by decide +kernel
theorem dX0_concludeThird_39 : decode cX0_concludeThird 39 = .ok (.aload_n 0, 1) := by decide +kernel
theorem dX0_concludeThird_40 : decode cX0_concludeThird 40 = .ok (.iload_n 1, 1) := by decide +kernel
theorem dX0_concludeThird_41 : decode cX0_concludeThird 41 = .ok (.ifCond .eq 11, 3) := by decide +kernel
theorem dX0_concludeThird_44 : decode cX0_concludeThird 44 = .ok (.iload_n 2, 1) := by decide +kernel
theorem dX0_concludeThird_45 : decode cX0_concludeThird 45 = .ok (.ifCond .eq 7, 3) := by decide +kernel
theorem dX0_concludeThird_48 : decode cX0_concludeThird 48 = .ok (.iconst 2, 1) := by decide +kernel
theorem dX0_concludeThird_49 : decode cX0_concludeThird 49 = .ok (.goto 4, 3) := by decide +kernel
theorem dX0_concludeThird_52 : decode cX0_concludeThird 52 = .ok (.iconst 3, 1) := by decide +kernel
theorem dX0_concludeThird_53 : decode cX0_concludeThird 53 = .ok (.putfield 9, 3) := by decide +kernel
theorem dX0_concludeThird_56 : decode cX0_concludeThird 56 = .ok (.return_, 1) := by decide +kernel
def tab_X0_concludeThird : List (Nat × Sem) := [(0, op_al 0 1), (1, op_gf 2 6 4), (4, op_ic 2 5), (5, op_il 1 6), (6, op_iast 7), (7, op_il 1 8), (8, op_al 0 9), (9, op_gf 2 6 12), (12, op_ic 0 13), (13, op_iald 14), (14, op_call sp_X0_alike 2 0 17), (17, op_if (fun x => ¬ x = 0) 33 20), (20, op_il 1 21), (21, op_al 0 22), (22, op_gf 2 6 25), (25, op_ic 1 26), (26, op_iald 27), (27, op_call sp_X0_alike 2 0 30), (30, op_if (fun x => x = 0) 37 33), (33, op_ic 1 34), (34, op_go 38), (37, op_ic 0 38), (38, op_is 2 39), (39, op_al 0 40), (40, op_il 1 41), (41, op_if (fun x => x = 0) 52 44), (44, op_il 2 45), (45, op_if (fun x => x = 0) 52 48), (48, op_ic 2 49), (49, op_go 53), (52, op_ic 3 53), (53, op_pf 2 2 56), (56, op_vret)]
set_option maxRecDepth 20000 in
theorem tok_X0_concludeThird : ∀ q ∈ tab_X0_concludeThird, Snd RX0 cX0_concludeThird 3 1 0 none q.1 q.2 := by
  unfold tab_X0_concludeThird
  refine tcons (ok_aload_n dX0_concludeThird_0 rfl rfl) ?_
  refine tcons (ok_getfield (C := RX0) (T := TX0) (n := 7) rfl in_X0 (by decide) w_579 dX0_concludeThird_1 rfl) ?_
  refine tcons (ok_iconst dX0_concludeThird_4 rfl rfl) ?_
  refine tcons (ok_iload_n dX0_concludeThird_5 rfl rfl) ?_
  refine tcons (ok_iastore dX0_concludeThird_6 rfl) ?_
  refine tcons (ok_iload_n dX0_concludeThird_7 rfl rfl) ?_
  refine tcons (ok_aload_n dX0_concludeThird_8 rfl rfl) ?_
  refine tcons (ok_getfield (C := RX0) (T := TX0) (n := 7) rfl in_X0 (by decide) w_579 dX0_concludeThird_9 rfl) ?_
  refine tcons (ok_iconst dX0_concludeThird_12 rfl rfl) ?_
  refine tcons (ok_iaload dX0_concludeThird_13 rfl) ?_
  refine tcons (ok_invokestatic M_X0_alike w_648 w_649 w_39 w_650 ⟨by decide, by decide, by decide +kernel⟩ (by decide) (by decide) dX0_concludeThird_14 rfl) ?_
  refine tcons (ok_if_ne dX0_concludeThird_17 rfl rfl) ?_
  refine tcons (ok_iload_n dX0_concludeThird_20 rfl rfl) ?_
  refine tcons (ok_aload_n dX0_concludeThird_21 rfl rfl) ?_
  refine tcons (ok_getfield (C := RX0) (T := TX0) (n := 7) rfl in_X0 (by decide) w_579 dX0_concludeThird_22 rfl) ?_
  refine tcons (ok_iconst dX0_concludeThird_25 rfl rfl) ?_
  refine tcons (ok_iaload dX0_concludeThird_26 rfl) ?_
  refine tcons (ok_invokestatic M_X0_alike w_648 w_649 w_39 w_650 ⟨by decide, by decide, by decide +kernel⟩ (by decide) (by decide) dX0_concludeThird_27 rfl) ?_
  refine tcons (ok_if_eq dX0_concludeThird_30 rfl rfl) ?_
  refine tcons (ok_iconst dX0_concludeThird_33 rfl rfl) ?_
  refine tcons (ok_goto dX0_concludeThird_34 rfl) ?_
  refine tcons (ok_iconst dX0_concludeThird_37 rfl rfl) ?_
  refine tcons (ok_istore_n dX0_concludeThird_38 rfl (by decide) rfl) ?_
  refine tcons (ok_aload_n dX0_concludeThird_39 rfl rfl) ?_
  refine tcons (ok_iload_n dX0_concludeThird_40 rfl rfl) ?_
  refine tcons (ok_if_eq dX0_concludeThird_41 rfl rfl) ?_
  refine tcons (ok_iload_n dX0_concludeThird_44 rfl rfl) ?_
  refine tcons (ok_if_eq dX0_concludeThird_45 rfl rfl) ?_
  refine tcons (ok_iconst dX0_concludeThird_48 rfl rfl) ?_
  refine tcons (ok_goto dX0_concludeThird_49 rfl) ?_
  refine tcons (ok_iconst dX0_concludeThird_52 rfl rfl) ?_
  refine tcons (ok_putfield (C := RX0) (T := TX0) (n := 7) tyX0 .int rfl in_X0 tyX0_ok nmX0 (by decide) rfl w_571 rfl (Or.inl rfl) dX0_concludeThird_53 rfl) ?_
  refine tcons (ok_vreturn rfl dX0_concludeThird_56) ?_
  exact fun _ h => nomatch h
noncomputable def ctC (s : Sg) (i : Nat) (d : Int32) : Sg := stS (stS s 17 i 2 d) 14 i 2 (iteP (¬ d = 0 ∧ (likeC d (s.2.1 17 i 0) ∨ likeC d (s.2.1 17 i 1))) 2 3)
def sp_X0_concludeThird : Spc := fun av s N _ => match av with
  | [.inl (.inr (14, i)), .inl (.inl d)] => Lv s 14 i ∧ N none (ctC s i d)
  | _ => False
set_option maxRecDepth 20000 in
set_option maxHeartbeats 2000000 in
theorem M_X0_concludeThird : AMet yX0_concludeThird cX0_concludeThird 3 none 1 0 sp_X0_concludeThird := by
  refine AMet.mk (own := RX0) (by decide) rfl [0, 1, 2] rfl tok_X0_concludeThird 200 ?_
  intro av s0 N X h
  unfold sp_X0_concludeThird at h
  split at h
  rotate_left
  · exact h.elim
  refine ⟨fun _ => none, ?_, fun pc P hP => nomatch hP⟩
  repeat' (first | apply And.intro | (intro q; exact absurd q (by decide)) | intro _)
  all_goals first | decide | (exact (rfl : (0 : Nat) = 0)) | (exact Nat.le_of_ble_eq_true rfl) | (with_reducible exact h.1) | (exact Ib_lit (by decide)) | (exact h.1) | (simp_all [-Int32.not_lt, -Int32.not_le, ctC, iteP, stS_get]; done) | (simp_all [-Int32.not_lt, -Int32.not_le, ← Int32.not_le, ctC, iteP, stS_get]; done) | (simp_all [ctC, iteP, stS_get]; done)
theorem dX0_conclude_0 : decode cX0_conclude 0 = .ok (.aload_n 0, 1) := by decide +kernel
theorem dX0_conclude_1 : decode cX0_conclude 1 = .ok (.getfield 15, 3) := by decide +kernel
theorem dX0_conclude_4 : decode cX0_conclude 4 = .ok (.lookupswitch 44 #[(1, 28), (2, 36)], 28) := by decide +kernel
theorem dX0_conclude_32 : decode cX0_conclude 32 = .ok (.aload_n 0, 1) := by decide +kernel
theorem dX0_conclude_33 : decode cX0_conclude 33 = .ok (.iload_n 1, 1) := by decide +kernel
theorem dX0_conclude_34 : decode cX0_conclude 34 = .ok (.invokevirtual 40, 3) := by decide +kernel
theorem dX0_conclude_37 : decode cX0_conclude 37 = .ok (.goto 16, 3) := by decide +kernel
theorem dX0_conclude_40 : decode cX0_conclude 40 = .ok (.aload_n 0, 1) := by decide +kernel
theorem dX0_conclude_41 : decode cX0_conclude 41 = .ok (.iload_n 1, 1) := by decide +kernel
theorem dX0_conclude_42 : decode cX0_conclude 42 = .ok (.invokevirtual 44, 3) := by decide +kernel
theorem dX0_conclude_45 : decode cX0_conclude 45 = .ok (.goto 8, 3) := by decide +kernel
theorem dX0_conclude_48 : decode cX0_conclude 48 = .ok (.aload_n 0, 1) := by decide +kernel
theorem dX0_conclude_49 : decode cX0_conclude 49 = .ok (.iload_n 1, 1) := by decide +kernel
theorem dX0_conclude_50 : decode cX0_conclude 50 = .ok (.invokevirtual 47, 3) := by decide +kernel
theorem dX0_conclude_53 : decode cX0_conclude 53 = .ok (.return_, 1) := by decide +kernel
def tab_X0_conclude : List (Nat × Sem) := [(0, op_al 0 1), (1, op_gf 2 3 4), (4, op_sw [(1, 32), (2, 40)] 48), (32, op_al 0 33), (33, op_il 1 34), (34, op_callV 2 sp_X0_concludeFirst 2 0 37), (37, op_go 53), (40, op_al 0 41), (41, op_il 1 42), (42, op_callV 2 sp_X0_concludeSecond 2 0 45), (45, op_go 53), (48, op_al 0 49), (49, op_il 1 50), (50, op_callV 2 sp_X0_concludeThird 2 0 53), (53, op_vret)]
set_option maxRecDepth 20000 in
theorem tok_X0_conclude : ∀ q ∈ tab_X0_conclude, Snd RX0 cX0_conclude 2 3 0 none q.1 q.2 := by
  unfold tab_X0_conclude
  refine tcons (ok_aload_n dX0_conclude_0 rfl rfl) ?_
  refine tcons (ok_getfield (C := RX0) (T := TX0) (n := 7) rfl in_X0 (by decide) w_573 dX0_conclude_1 rfl) ?_
  refine tcons (ok_lookup rfl (by decide) rfl (by decide) dX0_conclude_4) ?_
  refine tcons (ok_aload_n dX0_conclude_32 rfl rfl) ?_
  refine tcons (ok_iload_n dX0_conclude_33 rfl rfl) ?_
  refine tcons (ok_invokevirtual M_X0_concludeFirst (C := RX0) (T := TX0) (nf := 7) rfl w_636 w_637 w_638 w_39 w_639 ⟨rfl, by decide, by decide, by decide +kernel⟩ (by decide) (by decide) dX0_conclude_34 rfl) ?_
  refine tcons (ok_goto dX0_conclude_37 rfl) ?_
  refine tcons (ok_aload_n dX0_conclude_40 rfl rfl) ?_
  refine tcons (ok_iload_n dX0_conclude_41 rfl rfl) ?_
  refine tcons (ok_invokevirtual M_X0_concludeSecond (C := RX0) (T := TX0) (nf := 7) rfl w_644 w_645 w_646 w_39 w_647 ⟨rfl, by decide, by decide, by decide +kernel⟩ (by decide) (by decide) dX0_conclude_42 rfl) ?_
  refine tcons (ok_goto dX0_conclude_45 rfl) ?_
  refine tcons (ok_aload_n dX0_conclude_48 rfl rfl) ?_
  refine tcons (ok_iload_n dX0_conclude_49 rfl rfl) ?_
  refine tcons (ok_invokevirtual M_X0_concludeThird (C := RX0) (T := TX0) (nf := 7) rfl w_651 w_652 w_653 w_39 w_654 ⟨rfl, by decide, by decide, by decide +kernel⟩ (by decide) (by decide) dX0_conclude_50 rfl) ?_
  refine tcons (ok_vreturn rfl dX0_conclude_53) ?_
  exact fun _ h => nomatch h
def sp_X0_conclude : Spc := fun av s N _ => match av with
  | [.inl (.inr (14, i)), .inl (.inl d)] => Lv s 14 i ∧ (s.2.1 14 i 3 = 1 → N none (cfC s i d)) ∧ (s.2.1 14 i 3 = 2 → N none (csC s i d)) ∧ (¬ s.2.1 14 i 3 = 1 → ¬ s.2.1 14 i 3 = 2 → N none (ctC s i d))
  | _ => False
set_option maxRecDepth 20000 in
set_option maxHeartbeats 2000000 in
theorem M_X0_conclude : AMet yX0_conclude cX0_conclude 2 none 3 0 sp_X0_conclude := by
  refine AMet.mk (own := RX0) (by decide) rfl [0, 1] rfl tok_X0_conclude 200 ?_
  intro av s0 N X h
  unfold sp_X0_conclude at h
  split at h
  rotate_left
  · exact h.elim
  refine ⟨fun _ => none, ?_, fun pc P hP => nomatch hP⟩
  repeat' (first | apply And.intro | (intro q; exact absurd q (by decide)) | intro _)
  all_goals first | decide | (exact (rfl : (0 : Nat) = 0)) | (exact Nat.le_of_ble_eq_true rfl) | (with_reducible exact h.1) | (exact h.1) | (simp_all [-Int32.not_lt, -Int32.not_le]; done) | (simp_all [-Int32.not_lt, -Int32.not_le, ← Int32.not_le]; done) | (simp_all []; done)

