/-! ints that are small naturals -/
theorem w_127 : (.constant "VowCourtLaw" 7 (2147483647) : Cond) ∈ TB := TB_mem (List.mem_of_getElem? (i := 127) (by decide +kernel)) rfl
def irm (x y : Int32) : Int32 := x - x / y * y
theorem litI (n : Nat) : (OfNat.ofNat n : Int32) = nI n := rfl
theorem irmN {a d : Nat} (ha : a < 2 ^ 31) (h0 : 0 < d) (hd : d < 2 ^ 31) : irm (nI a) (nI d) = nI (a % d) := pk_rem ha h0 hd
theorem divN {a d : Nat} (ha : a < 2 ^ 31) (h0 : 0 < d) (hd : d < 2 ^ 31) : nI a / nI d = nI (a / d) := pk_div ha h0 hd
theorem shrN {a k : Nat} (ha : a < 2 ^ 31) (hk : k < 31) : nI a >>> (nI k &&& 31) = nI (a / 2 ^ k) := by
  have e : nI k &&& (31 : Int32) = nI k := by
    rw [pk_andN (n := k) (by omega) 5 (by decide), Nat.mod_eq_of_lt (by omega)]
  rw [e]
  refine pk_shrN ha (nI k) k ?_
  have : (nI k).toBitVec.smod 32 = BitVec.ofNat 32 k := by
    have h : k ∈ List.range 31 := List.mem_range.mpr hk
    revert h
    revert k
    decide
  rw [this]
  simp
  omega
theorem shlN {k : Nat} (hk : k < 31) : (1 : Int32) <<< (nI k &&& 31) = nI (2 ^ k) := by
  have h : k ∈ List.range 31 := List.mem_range.mpr hk
  clear hk
  revert h
  revert k
  decide
theorem and1N {a : Nat} (ha : a < 2 ^ 31) : nI a &&& 1 = nI (a % 2) := by
  rw [pk_andN (n := a) (by omega) 1 (by decide)]
theorem andN {a b : Nat} (ha : a < 2 ^ 31) (hb : b < 2 ^ 31) : nI a &&& nI b = nI (a &&& b) := by
  apply Int32.toBitVec_inj.mp
  apply BitVec.eq_of_toNat_eq
  have h1 : (a &&& b) < 2 ^ 31 := Nat.lt_of_le_of_lt Nat.and_le_left ha
  show ((nI a).toBitVec &&& (nI b).toBitVec).toNat = _
  rw [BitVec.toNat_and, pk_tn (by omega), pk_tn (by omega), pk_tn (by omega)]
theorem orN {a b : Nat} (ha : a < 2 ^ 31) (hb : b < 2 ^ 31) : nI a ||| nI b = nI (a ||| b) := by
  apply Int32.toBitVec_inj.mp
  apply BitVec.eq_of_toNat_eq
  have h1 : (a ||| b) < 2 ^ 31 := Nat.or_lt_two_pow ha hb
  show ((nI a).toBitVec ||| (nI b).toBitVec).toNat = _
  rw [BitVec.toNat_or, pk_tn (by omega), pk_tn (by omega), pk_tn (by omega)]
theorem xorN {a b : Nat} (ha : a < 2 ^ 31) (hb : b < 2 ^ 31) : nI a ^^^ nI b = nI (a ^^^ b) := by
  apply Int32.toBitVec_inj.mp
  apply BitVec.eq_of_toNat_eq
  have h1 : (a ^^^ b) < 2 ^ 31 := Nat.xor_lt_two_pow ha hb
  show ((nI a).toBitVec ^^^ (nI b).toBitVec).toNat = _
  rw [BitVec.toNat_xor, pk_tn (by omega), pk_tn (by omega), pk_tn (by omega)]
/-- a truth value as a number -/
def Bv (x : Int32) (P : Prop) : Prop := (x = 1 ∧ P) ∨ (x = 0 ∧ ¬ P)
theorem Bv_t {P : Prop} (h : P) : Bv 1 P := Or.inl ⟨rfl, h⟩
theorem Bv_f {P : Prop} (h : ¬ P) : Bv 0 P := Or.inr ⟨rfl, h⟩
theorem Bv_iff {x : Int32} {P Q : Prop} (h : Bv x P) (e : P ↔ Q) : Bv x Q := h.imp (fun z => ⟨z.1, e.mp z.2⟩) (fun z => ⟨z.1, fun y => z.2 (e.mpr y)⟩)
theorem br_of {P : Prop} {N : Nt} {s : Sg} {x : Int32} (h : br P N s) (hx : Bv x P) : N (some (aI x)) s := by
  rcases hx with ⟨rfl, z⟩ | ⟨rfl, z⟩
  · exact h.1 z
  · exact h.2 z
theorem Bv_01 {x : Int32} {P : Prop} (h : Bv x P) : x = 0 ∨ x = 1 := h.elim (fun z => Or.inr z.1) (fun z => Or.inl z.1)
theorem dL_part_0 : decode cL_part 0 = .ok (.iload_n 1, 1) := by decide +kernel
theorem dL_part_1 : decode cL_part 1 = .ok (.aload_n 0, 1) := by decide +kernel
theorem dL_part_2 : decode cL_part 2 = .ok (.arraylength, 1) := by decide +kernel
theorem dL_part_3 : decode cL_part 3 = .ok (.if_icmp .ge 9, 3) := by decide +kernel
theorem dL_part_6 : decode cL_part 6 = .ok (.aload_n 0, 1) := by decide +kernel
theorem dL_part_7 : decode cL_part 7 = .ok (.iload_n 1, 1) := by decide +kernel
theorem dL_part_8 : decode cL_part 8 = .ok (.iaload, 1) := by decide +kernel
theorem dL_part_9 : decode cL_part 9 = .ok (.goto 16, 3) := by decide +kernel
theorem dL_part_12 : decode cL_part 12 = .ok (.sipush 991, 3) := by decide +kernel
theorem dL_part_15 : decode cL_part 15 = .ok (.iload_n 1, 1) := by decide +kernel
theorem dL_part_16 : decode cL_part 16 = .ok (.imul, 1) := by decide +kernel
theorem dL_part_17 : decode cL_part 17 = .ok (.sipush 863, 3) := by decide +kernel
theorem dL_part_20 : decode cL_part 20 = .ok (.iload_n 1, 1) := by decide +kernel
theorem dL_part_21 : decode cL_part 21 = .ok (.imul, 1) := by decide +kernel
theorem dL_part_22 : decode cL_part 22 = .ok (.iload_n 1, 1) := by decide +kernel
theorem dL_part_23 : decode cL_part 23 = .ok (.imul, 1) := by decide +kernel
theorem dL_part_24 : decode cL_part 24 = .ok (.iadd, 1) := by decide +kernel
theorem dL_part_25 : decode cL_part 25 = .ok (.istore_n 3, 1) := by decide +kernel
theorem dL_part_26 : decode cL_part 26 = .ok (.iload_n 3, 1) := by decide +kernel
theorem dL_part_27 : decode cL_part 27 = .ok (.ldc 7, 2) := by decide +kernel
theorem dL_part_29 : decode cL_part 29 = .ok (.iand, 1) := by decide +kernel
theorem dL_part_30 : decode cL_part 30 = .ok (.iload_n 2, 1) := by decide +kernel
theorem dL_part_31 : decode cL_part 31 = .ok (.irem, 1) := by decide +kernel
theorem dL_part_32 : decode cL_part 32 = .ok (.ireturn, 1) := by decide +kernel
def tab_L_part : List (Nat × Sem) := [(0, op_part), (9, op_go 25), (12, op_ic 991 15), (15, op_il 1 16), (16, op_bin (fun x y => x * y) 17), (17, op_ic 863 20), (20, op_il 1 21), (21, op_bin (fun x y => x * y) 22), (22, op_il 1 23), (23, op_bin (fun x y => x * y) 24), (24, op_bin (fun x y => x + y) 25), (25, op_is 3 26), (26, op_il 3 27), (27, op_ic 2147483647 29), (29, op_bin (fun x y => x &&& y) 30), (30, op_il 2 31), (31, op_dv (fun x y => irm x y) 32), (32, op_iret)]
set_option maxRecDepth 20000 in
theorem tok_L_part : ∀ q ∈ tab_L_part, Snd RL cL_part 4 0 0 (some .int) q.1 q.2 := by
  unfold tab_L_part
  refine tcons (ok_part dL_part_0 dL_part_1 dL_part_2 dL_part_3 rfl dL_part_6 dL_part_7 dL_part_8) ?_
  refine tcons (ok_goto dL_part_9 rfl) ?_
  refine tcons (ok_sipush dL_part_12 rfl rfl) ?_
  refine tcons (ok_iload_n dL_part_15 rfl rfl) ?_
  refine tcons (ok_imul dL_part_16 rfl) ?_
  refine tcons (ok_sipush dL_part_17 rfl rfl) ?_
  refine tcons (ok_iload_n dL_part_20 rfl rfl) ?_
  refine tcons (ok_imul dL_part_21 rfl) ?_
  refine tcons (ok_iload_n dL_part_22 rfl rfl) ?_
  refine tcons (ok_imul dL_part_23 rfl) ?_
  refine tcons (ok_iadd dL_part_24 rfl) ?_
  refine tcons (ok_istore_n dL_part_25 rfl (by decide) rfl) ?_
  refine tcons (ok_iload_n dL_part_26 rfl rfl) ?_
  refine tcons (ok_ldc w_127 dL_part_27 rfl) ?_
  refine tcons (ok_iand dL_part_29 rfl) ?_
  refine tcons (ok_iload_n dL_part_30 rfl rfl) ?_
  refine tcons (ok_irem dL_part_31 rfl) ?_
  refine tcons (ok_ireturn rfl dL_part_32) ?_
  exact fun _ h => nomatch h
def sp_L_part : Spc := fun av s N _ => match av with
  | [.inl (.inr (74, 0)), .inl (.inl k), .inl (.inl n)] => ¬ k < 0 ∧ ∃ m : Nat, 0 < m ∧ m < 2 ^ 31 ∧ n = nI m ∧ ∀ a : Nat, a < m → N (some (aI (nI a))) s
  | _ => False
theorem and_max (x : Int32) : ∃ a : Nat, a < 2 ^ 31 ∧ x &&& 2147483647 = nI a := ⟨_, Nat.mod_lt _ (by decide), pk_and x 31 (by decide)⟩
set_option maxRecDepth 20000 in
set_option maxHeartbeats 2000000 in
theorem M_L_part : AMet yL_part cL_part 4 (some .int) 0 0 sp_L_part := by
  refine AMet.rn (own := RL) (by decide) rfl [0, 1, 2, 3] rfl tok_L_part ?_
  intro av s0 N X h Z run
  unfold sp_L_part at h
  split at h
  rotate_left
  · exact h.elim
  rename_i k n
  obtain ⟨hk, m, hm0, hm, rfl, h⟩ := h
  have hz : ¬ nI m = 0 := nI_ne0 hm0 hm
  have j : ∀ x : Int32, Z 25 0 [(0, .inr (74, 0)), (1, .inl k), (2, .inl (nI m))] [aI x] s0 := by
    intro x
    obtain ⟨a, ha, e⟩ := and_max x
    have e2 : irm (x &&& 2147483647) (nI m) = nI (a % m) := by rw [e, irmN ha hm0 hm]
    refine run.go [] 20 ?_
    repeat' (first | apply And.intro | (intro q; exact absurd q (by decide)) | (intro q; exact absurd (by decide) q) | (intro q; exact absurd rfl q) | intro _)
    all_goals first | (exact hz) | (exact trivial) | decide | (exact (rfl : (0 : Nat) = 0)) | (exact Nat.le_of_ble_eq_true rfl) | contradiction | skip
    show N (some (aI (irm (x &&& 2147483647) (nI m)))) s0
    rw [e2]
    exact h _ (Nat.mod_lt _ hm0)
  refine run.go [25] 30 ?_
  repeat' (first | apply And.intro | (intro q; exact absurd q (by decide)) | (intro q; exact absurd (by decide) q) | (intro q; exact absurd rfl q) | intro _)
  all_goals first | (exact hk) | (exact trivial) | decide | (exact (rfl : (0 : Nat) = 0)) | (exact Nat.le_of_ble_eq_true rfl) | contradiction | (exact j _)

