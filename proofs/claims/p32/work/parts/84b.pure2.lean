/-! the law's small methods: causes, dispensations -/
theorem loop_up {n : Nat} {P : Nat → Prop} (he : P n) (hs : ∀ k, k < n → P (k + 1) → P k) : ∀ k, k ≤ n → P k := by
  intro k hk
  obtain ⟨d, hd⟩ : ∃ d, d = n - k := ⟨_, rfl⟩
  induction d generalizing k with
  | zero => rw [show k = n by omega]; exact he
  | succ d ih => exact hs k (by omega) (ih (k + 1) (by omega) (by omega))
theorem all_s {P : Nat → Prop} {k : Nat} : (∀ j, j < k + 1 → P j) ↔ (∀ j, j < k → P j) ∧ P k := ⟨fun h => ⟨fun j hj => h j (by omega), h k (by omega)⟩, fun h j hj => (Nat.lt_succ_iff_lt_or_eq.mp hj).elim (h.1 j) (fun e => by rw [e]; exact h.2)⟩
theorem ex_s {P : Nat → Prop} {k : Nat} : (∃ j, j < k + 1 ∧ P j) ↔ (∃ j, j < k ∧ P j) ∨ P k := ⟨fun ⟨j, hj, h⟩ => (Nat.lt_succ_iff_lt_or_eq.mp hj).elim (fun z => Or.inl ⟨j, z, h⟩) (fun e => Or.inr (by rw [← e]; exact h)), fun h => h.elim (fun ⟨j, hj, z⟩ => ⟨j, by omega, z⟩) (fun z => ⟨k, by omega, z⟩)⟩
theorem all_0 {P : Nat → Prop} : ∀ j, j < 0 → P j := fun j hj => absurd hj (Nat.not_lt_zero j)
theorem ex_0 {P : Nat → Prop} : ¬ ∃ j, j < 0 ∧ P j := fun ⟨j, hj, _⟩ => absurd hj (Nat.not_lt_zero j)
def quP (s : Sg) (vow but : Int32) (k : Nat) : Prop := nI k = but ∨ ¬ irm (s.2.1 26 0 k) 16 = vow ∨ 1 < irm (s.2.1 26 0 k / 2048) 4
theorem dL_isQuiet_0 : decode cL_isQuiet 0 = .ok (.iconst 1, 1) := by decide +kernel
theorem dL_isQuiet_1 : decode cL_isQuiet 1 = .ok (.istore 4, 2) := by decide +kernel
theorem dL_isQuiet_3 : decode cL_isQuiet 3 = .ok (.iconst 0, 1) := by decide +kernel
theorem dL_isQuiet_4 : decode cL_isQuiet 4 = .ok (.istore 5, 2) := by decide +kernel
theorem dL_isQuiet_6 : decode cL_isQuiet 6 = .ok (.iload 5, 2) := by decide +kernel
theorem dL_isQuiet_8 : decode cL_isQuiet 8 = .ok (.aload_n 1, 1) := by decide +kernel
theorem dL_isQuiet_9 : decode cL_isQuiet 9 = .ok (.iconst 3, 1) := by decide +kernel
theorem dL_isQuiet_10 : decode cL_isQuiet 10 = .ok (.iaload, 1) := by decide +kernel
theorem dL_isQuiet_11 : decode cL_isQuiet 11 = .ok (.if_icmp .ge 52, 3) := by decide +kernel
theorem dL_isQuiet_14 : decode cL_isQuiet 14 = .ok (.iload 4, 2) := by decide +kernel
theorem dL_isQuiet_16 : decode cL_isQuiet 16 = .ok (.ifCond .eq 38, 3) := by decide +kernel
theorem dL_isQuiet_19 : decode cL_isQuiet 19 = .ok (.iload 5, 2) := by decide +kernel
theorem dL_isQuiet_21 : decode cL_isQuiet 21 = .ok (.iload_n 3, 1) := by decide +kernel
theorem dL_isQuiet_22 : decode cL_isQuiet 22 = .ok (.if_icmp .eq 28, 3) := by decide +kernel
theorem dL_isQuiet_25 : decode cL_isQuiet 25 = .ok (.aload_n 0, 1) := by decide +kernel
theorem dL_isQuiet_26 : decode cL_isQuiet 26 = .ok (.iload 5, 2) := by decide +kernel
theorem dL_isQuiet_28 : decode cL_isQuiet 28 = .ok (.iaload, 1) := by decide +kernel
theorem dL_isQuiet_29 : decode cL_isQuiet 29 = .ok (.bipush 16, 2) := by decide +kernel
theorem dL_isQuiet_31 : decode cL_isQuiet 31 = .ok (.irem, 1) := by decide +kernel
theorem dL_isQuiet_32 : decode cL_isQuiet 32 = .ok (.iload_n 2, 1) := by decide +kernel
theorem dL_isQuiet_33 : decode cL_isQuiet 33 = .ok (.if_icmp .ne 17, 3) := by decide +kernel
theorem dL_isQuiet_36 : decode cL_isQuiet 36 = .ok (.aload_n 0, 1) := by decide +kernel
theorem dL_isQuiet_37 : decode cL_isQuiet 37 = .ok (.iload 5, 2) := by decide +kernel
theorem dL_isQuiet_39 : decode cL_isQuiet 39 = .ok (.iaload, 1) := by decide +kernel
theorem dL_isQuiet_40 : decode cL_isQuiet 40 = .ok (.sipush 2048, 3) := by decide +kernel
theorem dL_isQuiet_43 : decode cL_isQuiet 43 = .ok (.idiv, 1) := by decide +kernel
theorem dL_isQuiet_44 : decode cL_isQuiet 44 = .ok (.iconst 4, 1) := by decide +kernel
theorem dL_isQuiet_45 : decode cL_isQuiet 45 = .ok (.irem, 1) := by decide +kernel
theorem dL_isQuiet_46 : decode cL_isQuiet 46 = .ok (.iconst 1, 1) := by decide +kernel
theorem dL_isQuiet_47 : decode cL_isQuiet 47 = .ok (.if_icmp .le 7, 3) := by decide +kernel
theorem dL_isQuiet_50 : decode cL_isQuiet 50 = .ok (.iconst 1, 1) := by decide +kernel
theorem dL_isQuiet_51 : decode cL_isQuiet 51 = .ok (.goto 4, 3) := by decide +kernel
theorem dL_isQuiet_54 : decode cL_isQuiet 54 = .ok (.iconst 0, 1) := by decide +kernel
theorem dL_isQuiet_55 : decode cL_isQuiet 55 = .ok (.istore 4, 2) := by decide +kernel
theorem dL_isQuiet_57 : decode cL_isQuiet 57 = .ok (.iinc 5 1, 3) := by decide +kernel
theorem dL_isQuiet_60 : decode cL_isQuiet 60 = .ok (.goto (-54), 3) := by decide +kernel
theorem dL_isQuiet_63 : decode cL_isQuiet 63 = .ok (.iload 4, 2) := by decide +kernel
theorem dL_isQuiet_65 : decode cL_isQuiet 65 = .ok (.ireturn, 1) := by decide +kernel
def tab_L_isQuiet : List (Nat × Sem) := [(0, op_ic 1 1), (1, op_is 4 3), (3, op_ic 0 4), (4, op_is 5 6), (6, op_il 5 8), (8, op_al 1 9), (9, op_ic 3 10), (10, op_iald 11), (11, op_cmp (fun x y => y ≤ x) 63 14), (14, op_il 4 16), (16, op_if (fun x => x = 0) 54 19), (19, op_il 5 21), (21, op_il 3 22), (22, op_cmp (fun x y => x = y) 50 25), (25, op_al 0 26), (26, op_il 5 28), (28, op_iald 29), (29, op_ic 16 31), (31, op_dv (fun x y => irm x y) 32), (32, op_il 2 33), (33, op_cmp (fun x y => ¬ x = y) 50 36), (36, op_al 0 37), (37, op_il 5 39), (39, op_iald 40), (40, op_ic 2048 43), (43, op_dv (fun x y => x / y) 44), (44, op_ic 4 45), (45, op_dv (fun x y => irm x y) 46), (46, op_ic 1 47), (47, op_cmp (fun x y => x ≤ y) 54 50), (50, op_ic 1 51), (51, op_go 55), (54, op_ic 0 55), (55, op_is 4 57), (57, op_inc 5 1 60), (60, op_go 6), (63, op_il 4 65), (65, op_zret)]
set_option maxRecDepth 20000 in
theorem tok_L_isQuiet : ∀ q ∈ tab_L_isQuiet, Snd RL cL_isQuiet 6 0 0 (some .boolean) q.1 q.2 := by
  unfold tab_L_isQuiet
  refine tcons (ok_iconst dL_isQuiet_0 rfl rfl) ?_
  refine tcons (ok_istore dL_isQuiet_1 (by decide) rfl) ?_
  refine tcons (ok_iconst dL_isQuiet_3 rfl rfl) ?_
  refine tcons (ok_istore dL_isQuiet_4 (by decide) rfl) ?_
  refine tcons (ok_iload dL_isQuiet_6 rfl) ?_
  refine tcons (ok_aload_n dL_isQuiet_8 rfl rfl) ?_
  refine tcons (ok_iconst dL_isQuiet_9 rfl rfl) ?_
  refine tcons (ok_iaload dL_isQuiet_10 rfl) ?_
  refine tcons (ok_icmp_ge dL_isQuiet_11 rfl rfl) ?_
  refine tcons (ok_iload dL_isQuiet_14 rfl) ?_
  refine tcons (ok_if_eq dL_isQuiet_16 rfl rfl) ?_
  refine tcons (ok_iload dL_isQuiet_19 rfl) ?_
  refine tcons (ok_iload_n dL_isQuiet_21 rfl rfl) ?_
  refine tcons (ok_icmp_eq dL_isQuiet_22 rfl rfl) ?_
  refine tcons (ok_aload_n dL_isQuiet_25 rfl rfl) ?_
  refine tcons (ok_iload dL_isQuiet_26 rfl) ?_
  refine tcons (ok_iaload dL_isQuiet_28 rfl) ?_
  refine tcons (ok_bipush dL_isQuiet_29 rfl rfl) ?_
  refine tcons (ok_irem dL_isQuiet_31 rfl) ?_
  refine tcons (ok_iload_n dL_isQuiet_32 rfl rfl) ?_
  refine tcons (ok_icmp_ne dL_isQuiet_33 rfl rfl) ?_
  refine tcons (ok_aload_n dL_isQuiet_36 rfl rfl) ?_
  refine tcons (ok_iload dL_isQuiet_37 rfl) ?_
  refine tcons (ok_iaload dL_isQuiet_39 rfl) ?_
  refine tcons (ok_sipush dL_isQuiet_40 rfl rfl) ?_
  refine tcons (ok_idiv dL_isQuiet_43 rfl) ?_
  refine tcons (ok_iconst dL_isQuiet_44 rfl rfl) ?_
  refine tcons (ok_irem dL_isQuiet_45 rfl) ?_
  refine tcons (ok_iconst dL_isQuiet_46 rfl rfl) ?_
  refine tcons (ok_icmp_le dL_isQuiet_47 rfl rfl) ?_
  refine tcons (ok_iconst dL_isQuiet_50 rfl rfl) ?_
  refine tcons (ok_goto dL_isQuiet_51 rfl) ?_
  refine tcons (ok_iconst dL_isQuiet_54 rfl rfl) ?_
  refine tcons (ok_istore dL_isQuiet_55 (by decide) rfl) ?_
  refine tcons (ok_iinc dL_isQuiet_57 rfl (by decide) rfl) ?_
  refine tcons (ok_goto dL_isQuiet_60 rfl) ?_
  refine tcons (ok_iload dL_isQuiet_63 rfl) ?_
  refine tcons (ok_zreturn rfl (Or.inl rfl) dL_isQuiet_65) ?_
  exact fun _ h => nomatch h
def sp_L_isQuiet : Spc := fun av s N _ => match av with
  | [.inl (.inr (26, 0)), .inl (.inr (30, 0)), .inl (.inl vow), .inl (.inl but)] => ∃ n : Nat, n ≤ 8 ∧ s.2.1 30 0 3 = nI n ∧ br (∀ j, j < n → quP s vow but j) N s
  | _ => False
set_option maxRecDepth 20000 in
set_option maxHeartbeats 2000000 in
theorem M_L_isQuiet : AMet yL_isQuiet cL_isQuiet 6 (some .boolean) 0 0 sp_L_isQuiet := by
  refine AMet.rn (own := RL) (by decide) rfl [0, 1, 2, 3, 4, 5] rfl tok_L_isQuiet ?_
  intro av s0 N X h Z run
  unfold sp_L_isQuiet at h
  split at h
  rotate_left
  · exact h.elim
  rename_i vow but
  obtain ⟨n, hn, hg, h⟩ := h
  have b3 : Ib 3 4 := nIb (k := 3) (by decide) (by decide)
  have hg2 : s0.2.1 30 0 (Int32.toNatClampNeg 3) = nI n := hg
  have lp := loop_up (n := n) (P := fun k => ∀ x : Int32, Bv x (∀ j, j < k → quP s0 vow but j) → Z 6 0 [(0, .inr (26, 0)), (1, .inr (30, 0)), (2, .inl vow), (3, .inl but), (4, .inl x), (5, .inl (nI k))] [] s0) ?_ ?_ 0 (Nat.zero_le _)
  · refine run.go [6] 20 ?_
    repeat' (first | apply And.intro | (intro q; exact absurd q (by decide)) | (intro q; exact absurd (by decide) q) | (intro q; exact absurd rfl q) | intro _)
    all_goals first | (exact trivial) | decide | (exact (rfl : (0 : Nat) = 0)) | (exact Nat.le_of_ble_eq_true rfl) | contradiction | (exact lp _ (Bv_t all_0))
  · intro x hx
    have hle : s0.2.1 30 0 3 ≤ nI n := by rw [hg]; exact nI_le (Nat.le_refl _) (by omega)
    refine run.go [] 30 ?_
    repeat' (first | apply And.intro | (intro q; exact absurd q (by decide)) | (intro q; exact absurd (by decide) q) | (intro q; exact absurd rfl q) | (intro q; exact absurd q hle) | (intro q; exact absurd hle q) | intro _)
    all_goals first | (exact b3) | (exact Bv_01 hx) | (exact br_of h hx) | (exact trivial) | decide | (exact (rfl : (0 : Nat) = 0)) | (exact Nat.le_of_ble_eq_true rfl) | contradiction
  · intro k hk ih x hx
    have ck : (nI k).toNatClampNeg = k := nI_clamp (by omega)
    have hle : ¬ s0.2.1 30 0 3 ≤ nI k := by rw [hg]; exact nI_ge hk (by omega)
    have hb : Ib (nI k) 9 := nIb (by omega) (by decide)
    have j : ∀ y : Int32, Bv y ((∀ j, j < k → quP s0 vow but j) ∧ quP s0 vow but k) → Z 55 0 [(0, .inr (26, 0)), (1, .inr (30, 0)), (2, .inl vow), (3, .inl but), (4, .inl x), (5, .inl (nI k))] [aI y] s0 := by
      intro y hy
      have ih := ih _ (Bv_iff hy all_s.symm)
      rw [← nIs] at ih
      exact run.go [6] 20 ih
    clear ih
    rcases hx with ⟨rfl, hA⟩ | ⟨rfl, hA⟩
    · refine run.go [55] 60 ?_
      repeat' (first | apply And.intro | (intro q; exact absurd q (by decide)) | (intro q; exact absurd (by decide) q) | (intro q; exact absurd rfl q) | (intro q; exact absurd q hle) | (intro q; exact absurd hle q) | intro _)
      all_goals first | (exact b3) | (exact hb) | (exact trivial) | decide | (exact (rfl : (0 : Nat) = 0)) | (exact Nat.le_of_ble_eq_true rfl) | contradiction | skip
      all_goals (simp only [ck] at *)
      all_goals first | (exact j _ (Bv_t ⟨hA, by unfold quP; grind⟩)) | (exact j _ (Bv_f (fun z => absurd z.2 (by unfold quP; grind))))
    · refine run.go [55] 60 ?_
      repeat' (first | apply And.intro | (intro q; exact absurd q (by decide)) | (intro q; exact absurd (by decide) q) | (intro q; exact absurd rfl q) | (intro q; exact absurd q hle) | (intro q; exact absurd hle q) | intro _)
      all_goals first | (exact b3) | (exact hb) | (exact trivial) | decide | (exact (rfl : (0 : Nat) = 0)) | (exact Nat.le_of_ble_eq_true rfl) | contradiction | (exact j _ (Bv_f (fun z => hA z.1)))
/-- the grounds that may be voted for -/
def prL (w : Nat → Int32) (db : Nat) : Nat → Int32
  | 0 => 0
  | k + 1 => prL w db k ||| (if 5 < w k ∧ db / 2 ^ k % 2 = 1 then nI (2 ^ k) else 0)
/-- a cause's row of the law: of which vow, its doubt, how it is, its instance -/
def pkC (vw db st ins : Nat) : Nat := vw + 16 * db + 2048 * st + 8192 * ins
def cR (s : Sg) (k vw db st ins : Nat) : Prop := (vw < 16 ∧ db < 128 ∧ st < 4 ∧ ins < 4) ∧ s.2.1 26 0 k = nI (pkC vw db st ins)
theorem cR_lt {s : Sg} {k vw db st ins : Nat} (h : cR s k vw db st ins) : pkC vw db st ins < 2 ^ 31 := by
  have := h.1
  unfold pkC
  omega
theorem cR_vw {s : Sg} {k vw db st ins : Nat} (h : cR s k vw db st ins) : irm (s.2.1 26 0 k) 16 = nI vw := by
  rw [h.2, show (16 : Int32) = nI 16 from rfl, irmN (cR_lt h) (by decide) (by decide)]
  have := h.1
  unfold pkC
  congr 1
  omega
theorem cR_db {s : Sg} {k vw db st ins : Nat} (h : cR s k vw db st ins) : irm (s.2.1 26 0 k / 16) 128 = nI db := by
  have h2 := cR_lt h
  rw [h.2, show (16 : Int32) = nI 16 from rfl, show (128 : Int32) = nI 128 from rfl, divN h2 (by decide) (by decide), irmN (by omega) (by decide) (by decide)]
  have := h.1
  unfold pkC
  congr 1
  omega
theorem cR_st {s : Sg} {k vw db st ins : Nat} (h : cR s k vw db st ins) : irm (s.2.1 26 0 k / 2048) 4 = nI st := by
  have h2 := cR_lt h
  rw [h.2, show (2048 : Int32) = nI 2048 from rfl, show (4 : Int32) = nI 4 from rfl, divN h2 (by decide) (by decide), irmN (by omega) (by decide) (by decide)]
  have := h.1
  unfold pkC
  congr 1
  omega
theorem cR_in {s : Sg} {k vw db st ins : Nat} (h : cR s k vw db st ins) : s.2.1 26 0 k / 8192 = nI ins := by
  have h2 := cR_lt h
  rw [h.2, show (8192 : Int32) = nI 8192 from rfl, divN h2 (by decide) (by decide)]
  have := h.1
  unfold pkC
  congr 1
  omega
theorem cR_bit {s : Sg} {k vw db st ins b : Nat} (h : cR s k vw db st ins) (hb : b < 7) : (s.2.1 26 0 k / 16) >>> (nI b &&& 31) &&& 1 = nI (db / 2 ^ b % 2) := by
  have h2 := cR_lt h
  rw [h.2, show (16 : Int32) = nI 16 from rfl, divN h2 (by decide) (by decide), shrN (by omega) (by omega), and1N (Nat.lt_of_le_of_lt (Nat.div_le_self _ _) (by omega))]
  have := h.1
  have hb2 : b = 0 ∨ b = 1 ∨ b = 2 ∨ b = 3 ∨ b = 4 ∨ b = 5 ∨ b = 6 := by omega
  unfold pkC
  congr 1
  rcases hb2 with rfl | rfl | rfl | rfl | rfl | rfl | rfl <;> omega
theorem dL_proven_0 : decode cL_proven 0 = .ok (.iconst 0, 1) := by decide +kernel
theorem dL_proven_1 : decode cL_proven 1 = .ok (.istore_n 3, 1) := by decide +kernel
theorem dL_proven_2 : decode cL_proven 2 = .ok (.iconst 0, 1) := by decide +kernel
theorem dL_proven_3 : decode cL_proven 3 = .ok (.istore 4, 2) := by decide +kernel
theorem dL_proven_5 : decode cL_proven 5 = .ok (.iload 4, 2) := by decide +kernel
theorem dL_proven_7 : decode cL_proven 7 = .ok (.bipush 7, 2) := by decide +kernel
theorem dL_proven_9 : decode cL_proven 9 = .ok (.if_icmp .ge 48, 3) := by decide +kernel
theorem dL_proven_12 : decode cL_proven 12 = .ok (.iload_n 3, 1) := by decide +kernel
theorem dL_proven_13 : decode cL_proven 13 = .ok (.aload_n 1, 1) := by decide +kernel
theorem dL_proven_14 : decode cL_proven 14 = .ok (.bipush 7, 2) := by decide +kernel
theorem dL_proven_16 : decode cL_proven 16 = .ok (.iload_n 2, 1) := by decide +kernel
theorem dL_proven_17 : decode cL_proven 17 = .ok (.imul, 1) := by decide +kernel
theorem dL_proven_18 : decode cL_proven 18 = .ok (.iload 4, 2) := by decide +kernel
theorem dL_proven_20 : decode cL_proven 20 = .ok (.iadd, 1) := by decide +kernel
theorem dL_proven_21 : decode cL_proven 21 = .ok (.iaload, 1) := by decide +kernel
theorem dL_proven_22 : decode cL_proven 22 = .ok (.iconst 5, 1) := by decide +kernel
theorem dL_proven_23 : decode cL_proven 23 = .ok (.if_icmp .le 25, 3) := by decide +kernel
theorem dL_proven_26 : decode cL_proven 26 = .ok (.aload_n 0, 1) := by decide +kernel
theorem dL_proven_27 : decode cL_proven 27 = .ok (.iload_n 2, 1) := by decide +kernel
theorem dL_proven_28 : decode cL_proven 28 = .ok (.iaload, 1) := by decide +kernel
theorem dL_proven_29 : decode cL_proven 29 = .ok (.bipush 16, 2) := by decide +kernel
theorem dL_proven_31 : decode cL_proven 31 = .ok (.idiv, 1) := by decide +kernel
theorem dL_proven_32 : decode cL_proven 32 = .ok (.iload 4, 2) := by decide +kernel
theorem dL_proven_34 : decode cL_proven 34 = .ok (.ishr, 1) := by decide +kernel
theorem dL_proven_35 : decode cL_proven 35 = .ok (.iconst 1, 1) := by decide +kernel
theorem dL_proven_36 : decode cL_proven 36 = .ok (.iand, 1) := by decide +kernel
theorem dL_proven_37 : decode cL_proven 37 = .ok (.iconst 1, 1) := by decide +kernel
theorem dL_proven_38 : decode cL_proven 38 = .ok (.if_icmp .ne 10, 3) := by decide +kernel
theorem dL_proven_41 : decode cL_proven 41 = .ok (.iconst 1, 1) := by decide +kernel
theorem dL_proven_42 : decode cL_proven 42 = .ok (.iload 4, 2) := by decide +kernel
theorem dL_proven_44 : decode cL_proven 44 = .ok (.ishl, 1) := by decide +kernel
theorem dL_proven_45 : decode cL_proven 45 = .ok (.goto 4, 3) := by decide +kernel
theorem dL_proven_48 : decode cL_proven 48 = .ok (.iconst 0, 1) := by decide +kernel
theorem dL_proven_49 : decode cL_proven 49 = .ok (.ior, 1) := by decide +kernel
theorem dL_proven_50 : decode cL_proven 50 = .ok (.istore_n 3, 1) := by decide +kernel
theorem dL_proven_51 : decode cL_proven 51 = .ok (.iinc 4 1, 3) := by decide +kernel
theorem dL_proven_54 : decode cL_proven 54 = .ok (.goto (-49), 3) := by decide +kernel
theorem dL_proven_57 : decode cL_proven 57 = .ok (.iload_n 3, 1) := by decide +kernel
theorem dL_proven_58 : decode cL_proven 58 = .ok (.ireturn, 1) := by decide +kernel
def tab_L_proven : List (Nat × Sem) := [(0, op_ic 0 1), (1, op_is 3 2), (2, op_ic 0 3), (3, op_is 4 5), (5, op_il 4 7), (7, op_ic 7 9), (9, op_cmp (fun x y => y ≤ x) 57 12), (12, op_il 3 13), (13, op_al 1 14), (14, op_ic 7 16), (16, op_il 2 17), (17, op_bin (fun x y => x * y) 18), (18, op_il 4 20), (20, op_bin (fun x y => x + y) 21), (21, op_iald 22), (22, op_ic 5 23), (23, op_cmp (fun x y => x ≤ y) 48 26), (26, op_al 0 27), (27, op_il 2 28), (28, op_iald 29), (29, op_ic 16 31), (31, op_dv (fun x y => x / y) 32), (32, op_il 4 34), (34, op_bin (fun x y => x >>> (y &&& 31)) 35), (35, op_ic 1 36), (36, op_bin (fun x y => x &&& y) 37), (37, op_ic 1 38), (38, op_cmp (fun x y => ¬ x = y) 48 41), (41, op_ic 1 42), (42, op_il 4 44), (44, op_bin (fun x y => x <<< (y &&& 31)) 45), (45, op_go 49), (48, op_ic 0 49), (49, op_bin (fun x y => x ||| y) 50), (50, op_is 3 51), (51, op_inc 4 1 54), (54, op_go 5), (57, op_il 3 58), (58, op_iret)]
set_option maxRecDepth 20000 in
theorem tok_L_proven : ∀ q ∈ tab_L_proven, Snd RL cL_proven 5 0 0 (some .int) q.1 q.2 := by
  unfold tab_L_proven
  refine tcons (ok_iconst dL_proven_0 rfl rfl) ?_
  refine tcons (ok_istore_n dL_proven_1 rfl (by decide) rfl) ?_
  refine tcons (ok_iconst dL_proven_2 rfl rfl) ?_
  refine tcons (ok_istore dL_proven_3 (by decide) rfl) ?_
  refine tcons (ok_iload dL_proven_5 rfl) ?_
  refine tcons (ok_bipush dL_proven_7 rfl rfl) ?_
  refine tcons (ok_icmp_ge dL_proven_9 rfl rfl) ?_
  refine tcons (ok_iload_n dL_proven_12 rfl rfl) ?_
  refine tcons (ok_aload_n dL_proven_13 rfl rfl) ?_
  refine tcons (ok_bipush dL_proven_14 rfl rfl) ?_
  refine tcons (ok_iload_n dL_proven_16 rfl rfl) ?_
  refine tcons (ok_imul dL_proven_17 rfl) ?_
  refine tcons (ok_iload dL_proven_18 rfl) ?_
  refine tcons (ok_iadd dL_proven_20 rfl) ?_
  refine tcons (ok_iaload dL_proven_21 rfl) ?_
  refine tcons (ok_iconst dL_proven_22 rfl rfl) ?_
  refine tcons (ok_icmp_le dL_proven_23 rfl rfl) ?_
  refine tcons (ok_aload_n dL_proven_26 rfl rfl) ?_
  refine tcons (ok_iload_n dL_proven_27 rfl rfl) ?_
  refine tcons (ok_iaload dL_proven_28 rfl) ?_
  refine tcons (ok_bipush dL_proven_29 rfl rfl) ?_
  refine tcons (ok_idiv dL_proven_31 rfl) ?_
  refine tcons (ok_iload dL_proven_32 rfl) ?_
  refine tcons (ok_ishr dL_proven_34 rfl) ?_
  refine tcons (ok_iconst dL_proven_35 rfl rfl) ?_
  refine tcons (ok_iand dL_proven_36 rfl) ?_
  refine tcons (ok_iconst dL_proven_37 rfl rfl) ?_
  refine tcons (ok_icmp_ne dL_proven_38 rfl rfl) ?_
  refine tcons (ok_iconst dL_proven_41 rfl rfl) ?_
  refine tcons (ok_iload dL_proven_42 rfl) ?_
  refine tcons (ok_ishl dL_proven_44 rfl) ?_
  refine tcons (ok_goto dL_proven_45 rfl) ?_
  refine tcons (ok_iconst dL_proven_48 rfl rfl) ?_
  refine tcons (ok_ior dL_proven_49 rfl) ?_
  refine tcons (ok_istore_n dL_proven_50 rfl (by decide) rfl) ?_
  refine tcons (ok_iinc dL_proven_51 rfl (by decide) rfl) ?_
  refine tcons (ok_goto dL_proven_54 rfl) ?_
  refine tcons (ok_iload_n dL_proven_57 rfl rfl) ?_
  refine tcons (ok_ireturn rfl dL_proven_58) ?_
  exact fun _ h => nomatch h
def sp_L_proven : Spc := fun av s N _ => match av with
  | [.inl (.inr (26, 0)), .inl (.inr (27, 0)), .inl (.inl c)] => ∃ i vw db st ins : Nat, i < 8 ∧ c = nI i ∧ cR s i vw db st ins ∧ N (some (aI (prL (fun k => s.2.1 27 0 (7 * i + k)) db 7))) s
  | _ => False
set_option maxRecDepth 20000 in
set_option maxHeartbeats 2000000 in
theorem M_L_proven : AMet yL_proven cL_proven 5 (some .int) 0 0 sp_L_proven := by
  refine AMet.rn (own := RL) (by decide) rfl [0, 1, 2, 3, 4] rfl tok_L_proven ?_
  intro av s0 N X h Z run
  unfold sp_L_proven at h
  split at h
  rotate_left
  · exact h.elim
  rename_i c
  obtain ⟨i, vw, db, st, ins, hi, rfl, hc, h⟩ := h
  have ci : (nI i).toNatClampNeg = i := nI_clamp (by omega)
  have hb9 : Ib (nI i) 9 := nIb (by omega) (by decide)
  have lp := loop_up (n := 7) (P := fun k => Z 5 0 [(0, .inr (26, 0)), (1, .inr (27, 0)), (2, .inl (nI i)), (3, .inl (prL (fun k => s0.2.1 27 0 (7 * i + k)) db k)), (4, .inl (nI k))] [] s0) ?_ ?_ 0 (Nat.zero_le _)
  · refine run.go [5] 20 ?_
    repeat' (first | apply And.intro | (intro q; exact absurd q (by decide)) | (intro q; exact absurd (by decide) q) | (intro q; exact absurd rfl q) | intro _)
    all_goals first | (exact trivial) | decide | (exact (rfl : (0 : Nat) = 0)) | (exact Nat.le_of_ble_eq_true rfl) | contradiction | (exact lp)
  · have hle : (7 : Int32) ≤ nI 7 := by decide
    refine run.go [] 30 ?_
    repeat' (first | apply And.intro | (intro q; exact absurd q (by decide)) | (intro q; exact absurd (by decide) q) | (intro q; exact absurd rfl q) | (intro q; exact absurd q hle) | (intro q; exact absurd hle q) | intro _)
    all_goals first | (exact trivial) | decide | (exact (rfl : (0 : Nat) = 0)) | (exact Nat.le_of_ble_eq_true rfl) | contradiction | exact h
  · intro k hk ih
    have ck : (nI k).toNatClampNeg = k := nI_clamp (by omega)
    have e7 : (7 : Int32) * nI i + nI k = nI (7 * i + k) := by rw [show (7 : Int32) = nI 7 from rfl, pk_mul, nI_add]
    have c7 : ((7 : Int32) * nI i + nI k).toNatClampNeg = 7 * i + k := by rw [e7]; exact nI_clamp (by omega)
    have hb7 : Ib ((7 : Int32) * nI i + nI k) 57 := by rw [e7]; exact nIb (by omega) (by decide)
    have hle : ¬ (7 : Int32) ≤ nI k := nI_ge (b := 7) hk (by decide)
    have hbit := cR_bit hc hk
    have j : ∀ y : Int32, y = (if 5 < s0.2.1 27 0 (7 * i + k) ∧ db / 2 ^ k % 2 = 1 then nI (2 ^ k) else 0) → Z 49 0 [(0, .inr (26, 0)), (1, .inr (27, 0)), (2, .inl (nI i)), (3, .inl (prL (fun k => s0.2.1 27 0 (7 * i + k)) db k)), (4, .inl (nI k))] [aI y, aI (prL (fun k => s0.2.1 27 0 (7 * i + k)) db k)] s0 := by
      rintro y rfl
      rw [← nIs] at ih
      exact run.go [5] 20 ih
    have hodd : db / 2 ^ k % 2 = 0 ∨ db / 2 ^ k % 2 = 1 := by omega
    refine run.go [49] 60 ?_
    repeat' (first | apply And.intro | (intro q; exact absurd q (by decide)) | (intro q; exact absurd (by decide) q) | (intro q; exact absurd rfl q) | (intro q; exact absurd q hle) | (intro q; exact absurd hle q) | intro _)
    all_goals first | (exact hb9) | (exact hb7) | (exact trivial) | decide | (exact (rfl : (0 : Nat) = 0)) | (exact Nat.le_of_ble_eq_true rfl) | contradiction | skip
    all_goals (simp only [ci, ck, c7, hbit] at *)
    · rename_i q1
      refine j _ ?_
      rw [if_neg]
      rintro ⟨q3, -⟩
      exact Int32.not_lt.mpr q1 q3
    · rename_i q1 q2
      refine j _ ?_
      rw [if_neg]
      rintro ⟨-, q3⟩
      rw [q3] at q2
      exact q2 rfl
    · rename_i q1 q2
      refine j _ ?_
      rw [if_pos]
      · exact shlN (by omega)
      · refine ⟨Int32.not_le.mp q1, ?_⟩
        rcases hodd with z | z
        · rw [z] at q2
          exact absurd (Classical.not_not.mp q2) (by decide)
        · exact z
def dsP (s : Sg) (one oth kind : Int32) (k : Nat) : Prop := ((irm (s.2.1 23 0 k) 16 = one ∧ irm (s.2.1 23 0 k / 16) 16 = oth) ∨ (irm (s.2.1 23 0 k) 16 = oth ∧ irm (s.2.1 23 0 k / 16) 16 = one)) ∧ s.2.1 23 0 k / 256 = kind
theorem dL_isDispensed_0 : decode cL_isDispensed 0 = .ok (.iconst 0, 1) := by decide +kernel
theorem dL_isDispensed_1 : decode cL_isDispensed 1 = .ok (.istore 4, 2) := by decide +kernel
theorem dL_isDispensed_3 : decode cL_isDispensed 3 = .ok (.iconst 0, 1) := by decide +kernel
theorem dL_isDispensed_4 : decode cL_isDispensed 4 = .ok (.istore 5, 2) := by decide +kernel
theorem dL_isDispensed_6 : decode cL_isDispensed 6 = .ok (.iload 5, 2) := by decide +kernel
theorem dL_isDispensed_8 : decode cL_isDispensed 8 = .ok (.aload_n 0, 1) := by decide +kernel
theorem dL_isDispensed_9 : decode cL_isDispensed 9 = .ok (.bipush 15, 2) := by decide +kernel
theorem dL_isDispensed_11 : decode cL_isDispensed 11 = .ok (.iaload, 1) := by decide +kernel
theorem dL_isDispensed_12 : decode cL_isDispensed 12 = .ok (.if_icmp .ge 95, 3) := by decide +kernel
theorem dL_isDispensed_15 : decode cL_isDispensed 15 = .ok (.aload_n 0, 1) := by decide +kernel
theorem dL_isDispensed_16 : decode cL_isDispensed 16 = .ok (.iload 5, 2) := by decide +kernel
theorem dL_isDispensed_18 : decode cL_isDispensed 18 = .ok (.iaload, 1) := by decide +kernel
theorem dL_isDispensed_19 : decode cL_isDispensed 19 = .ok (.bipush 16, 2) := by decide +kernel
theorem dL_isDispensed_21 : decode cL_isDispensed 21 = .ok (.irem, 1) := by decide +kernel
theorem dL_isDispensed_22 : decode cL_isDispensed 22 = .ok (.iload_n 1, 1) := by decide +kernel
theorem dL_isDispensed_23 : decode cL_isDispensed 23 = .ok (.if_icmp .ne 17, 3) := by decide +kernel
theorem dL_isDispensed_26 : decode cL_isDispensed 26 = .ok (.aload_n 0, 1) := by decide +kernel
theorem dL_isDispensed_27 : decode cL_isDispensed 27 = .ok (.iload 5, 2) := by decide +kernel
theorem dL_isDispensed_29 : decode cL_isDispensed 29 = .ok (.iaload, 1) := by decide +kernel
theorem dL_isDispensed_30 : decode cL_isDispensed 30 = .ok (.bipush 16, 2) := by decide +kernel
theorem dL_isDispensed_32 : decode cL_isDispensed 32 = .ok (.idiv, 1) := by decide +kernel
theorem dL_isDispensed_33 : decode cL_isDispensed 33 = .ok (.bipush 16, 2) := by decide +kernel
theorem dL_isDispensed_35 : decode cL_isDispensed 35 = .ok (.irem, 1) := by decide +kernel
theorem dL_isDispensed_36 : decode cL_isDispensed 36 = .ok (.iload_n 2, 1) := by decide +kernel
theorem dL_isDispensed_37 : decode cL_isDispensed 37 = .ok (.if_icmp .eq 28, 3) := by decide +kernel
theorem dL_isDispensed_40 : decode cL_isDispensed 40 = .ok (.aload_n 0, 1) := by decide +kernel
theorem dL_isDispensed_41 : decode cL_isDispensed 41 = .ok (.iload 5, 2) := by decide +kernel
theorem dL_isDispensed_43 : decode cL_isDispensed 43 = .ok (.iaload, 1) := by decide +kernel
theorem dL_isDispensed_44 : decode cL_isDispensed 44 = .ok (.bipush 16, 2) := by decide +kernel
theorem dL_isDispensed_46 : decode cL_isDispensed 46 = .ok (.irem, 1) := by decide +kernel
theorem dL_isDispensed_47 : decode cL_isDispensed 47 = .ok (.iload_n 2, 1) := by decide +kernel
theorem dL_isDispensed_48 : decode cL_isDispensed 48 = .ok (.if_icmp .ne 21, 3) := by decide +kernel
theorem dL_isDispensed_51 : decode cL_isDispensed 51 = .ok (.aload_n 0, 1) := by decide +kernel
theorem dL_isDispensed_52 : decode cL_isDispensed 52 = .ok (.iload 5, 2) := by decide +kernel
theorem dL_isDispensed_54 : decode cL_isDispensed 54 = .ok (.iaload, 1) := by decide +kernel
theorem dL_isDispensed_55 : decode cL_isDispensed 55 = .ok (.bipush 16, 2) := by decide +kernel
theorem dL_isDispensed_57 : decode cL_isDispensed 57 = .ok (.idiv, 1) := by decide +kernel
theorem dL_isDispensed_58 : decode cL_isDispensed 58 = .ok (.bipush 16, 2) := by decide +kernel
theorem dL_isDispensed_60 : decode cL_isDispensed 60 = .ok (.irem, 1) := by decide +kernel
theorem dL_isDispensed_61 : decode cL_isDispensed 61 = .ok (.iload_n 1, 1) := by decide +kernel
theorem dL_isDispensed_62 : decode cL_isDispensed 62 = .ok (.if_icmp .ne 7, 3) := by decide +kernel
theorem dL_isDispensed_65 : decode cL_isDispensed 65 = .ok (.iconst 1, 1) := by decide +kernel
theorem dL_isDispensed_66 : decode cL_isDispensed 66 = .ok (.goto 4, 3) := by decide +kernel
theorem dL_isDispensed_69 : decode cL_isDispensed 69 = .ok (.iconst 0, 1) := by decide +kernel
theorem dL_isDispensed_70 : decode cL_isDispensed 70 = .ok (.istore 6, 2) := by decide +kernel
theorem dL_isDispensed_72 : decode cL_isDispensed 72 = .ok (.iload 4, 2) := by decide +kernel
theorem dL_isDispensed_74 : decode cL_isDispensed 74 = .ok (.ifCond .ne 20, 3) := by decide +kernel
theorem dL_isDispensed_77 : decode cL_isDispensed 77 = .ok (.iload 6, 2) := by decide +kernel
theorem dL_isDispensed_79 : decode cL_isDispensed 79 = .ok (.ifCond .eq 19, 3) := by decide +kernel
theorem dL_isDispensed_82 : decode cL_isDispensed 82 = .ok (.aload_n 0, 1) := by decide +kernel
theorem dL_isDispensed_83 : decode cL_isDispensed 83 = .ok (.iload 5, 2) := by decide +kernel
theorem dL_isDispensed_85 : decode cL_isDispensed 85 = .ok (.iaload, 1) := by decide +kernel
theorem dL_isDispensed_86 : decode cL_isDispensed 86 = .ok (.sipush 256, 3) := by decide +kernel
theorem dL_isDispensed_89 : decode cL_isDispensed 89 = .ok (.idiv, 1) := by decide +kernel
theorem dL_isDispensed_90 : decode cL_isDispensed 90 = .ok (.iload_n 3, 1) := by decide +kernel
theorem dL_isDispensed_91 : decode cL_isDispensed 91 = .ok (.if_icmp .ne 7, 3) := by decide +kernel
theorem dL_isDispensed_94 : decode cL_isDispensed 94 = .ok (.iconst 1, 1) := by decide +kernel
theorem dL_isDispensed_95 : decode cL_isDispensed 95 = .ok (.goto 4, 3) := by decide +kernel
theorem dL_isDispensed_98 : decode cL_isDispensed 98 = .ok (.iconst 0, 1) := by decide +kernel
theorem dL_isDispensed_99 : decode cL_isDispensed 99 = .ok (.istore 4, 2) := by decide +kernel
theorem dL_isDispensed_101 : decode cL_isDispensed 101 = .ok (.iinc 5 1, 3) := by decide +kernel
theorem dL_isDispensed_104 : decode cL_isDispensed 104 = .ok (.goto (-98), 3) := by decide +kernel
theorem dL_isDispensed_107 : decode cL_isDispensed 107 = .ok (.iload 4, 2) := by decide +kernel
theorem dL_isDispensed_109 : decode cL_isDispensed 109 = .ok (.ireturn, 1) := by decide +kernel
def tab_L_isDispensed : List (Nat × Sem) := [(0, op_ic 0 1), (1, op_is 4 3), (3, op_ic 0 4), (4, op_is 5 6), (6, op_il 5 8), (8, op_al 0 9), (9, op_ic 15 11), (11, op_iald 12), (12, op_cmp (fun x y => y ≤ x) 107 15), (15, op_al 0 16), (16, op_il 5 18), (18, op_iald 19), (19, op_ic 16 21), (21, op_dv (fun x y => irm x y) 22), (22, op_il 1 23), (23, op_cmp (fun x y => ¬ x = y) 40 26), (26, op_al 0 27), (27, op_il 5 29), (29, op_iald 30), (30, op_ic 16 32), (32, op_dv (fun x y => x / y) 33), (33, op_ic 16 35), (35, op_dv (fun x y => irm x y) 36), (36, op_il 2 37), (37, op_cmp (fun x y => x = y) 65 40), (40, op_al 0 41), (41, op_il 5 43), (43, op_iald 44), (44, op_ic 16 46), (46, op_dv (fun x y => irm x y) 47), (47, op_il 2 48), (48, op_cmp (fun x y => ¬ x = y) 69 51), (51, op_al 0 52), (52, op_il 5 54), (54, op_iald 55), (55, op_ic 16 57), (57, op_dv (fun x y => x / y) 58), (58, op_ic 16 60), (60, op_dv (fun x y => irm x y) 61), (61, op_il 1 62), (62, op_cmp (fun x y => ¬ x = y) 69 65), (65, op_ic 1 66), (66, op_go 70), (69, op_ic 0 70), (70, op_is 6 72), (72, op_il 4 74), (74, op_if (fun x => ¬ x = 0) 94 77), (77, op_il 6 79), (79, op_if (fun x => x = 0) 98 82), (82, op_al 0 83), (83, op_il 5 85), (85, op_iald 86), (86, op_ic 256 89), (89, op_dv (fun x y => x / y) 90), (90, op_il 3 91), (91, op_cmp (fun x y => ¬ x = y) 98 94), (94, op_ic 1 95), (95, op_go 99), (98, op_ic 0 99), (99, op_is 4 101), (101, op_inc 5 1 104), (104, op_go 6), (107, op_il 4 109), (109, op_zret)]
set_option maxRecDepth 20000 in
theorem tok_L_isDispensed : ∀ q ∈ tab_L_isDispensed, Snd RL cL_isDispensed 7 0 0 (some .boolean) q.1 q.2 := by
  unfold tab_L_isDispensed
  refine tcons (ok_iconst dL_isDispensed_0 rfl rfl) ?_
  refine tcons (ok_istore dL_isDispensed_1 (by decide) rfl) ?_
  refine tcons (ok_iconst dL_isDispensed_3 rfl rfl) ?_
  refine tcons (ok_istore dL_isDispensed_4 (by decide) rfl) ?_
  refine tcons (ok_iload dL_isDispensed_6 rfl) ?_
  refine tcons (ok_aload_n dL_isDispensed_8 rfl rfl) ?_
  refine tcons (ok_bipush dL_isDispensed_9 rfl rfl) ?_
  refine tcons (ok_iaload dL_isDispensed_11 rfl) ?_
  refine tcons (ok_icmp_ge dL_isDispensed_12 rfl rfl) ?_
  refine tcons (ok_aload_n dL_isDispensed_15 rfl rfl) ?_
  refine tcons (ok_iload dL_isDispensed_16 rfl) ?_
  refine tcons (ok_iaload dL_isDispensed_18 rfl) ?_
  refine tcons (ok_bipush dL_isDispensed_19 rfl rfl) ?_
  refine tcons (ok_irem dL_isDispensed_21 rfl) ?_
  refine tcons (ok_iload_n dL_isDispensed_22 rfl rfl) ?_
  refine tcons (ok_icmp_ne dL_isDispensed_23 rfl rfl) ?_
  refine tcons (ok_aload_n dL_isDispensed_26 rfl rfl) ?_
  refine tcons (ok_iload dL_isDispensed_27 rfl) ?_
  refine tcons (ok_iaload dL_isDispensed_29 rfl) ?_
  refine tcons (ok_bipush dL_isDispensed_30 rfl rfl) ?_
  refine tcons (ok_idiv dL_isDispensed_32 rfl) ?_
  refine tcons (ok_bipush dL_isDispensed_33 rfl rfl) ?_
  refine tcons (ok_irem dL_isDispensed_35 rfl) ?_
  refine tcons (ok_iload_n dL_isDispensed_36 rfl rfl) ?_
  refine tcons (ok_icmp_eq dL_isDispensed_37 rfl rfl) ?_
  refine tcons (ok_aload_n dL_isDispensed_40 rfl rfl) ?_
  refine tcons (ok_iload dL_isDispensed_41 rfl) ?_
  refine tcons (ok_iaload dL_isDispensed_43 rfl) ?_
  refine tcons (ok_bipush dL_isDispensed_44 rfl rfl) ?_
  refine tcons (ok_irem dL_isDispensed_46 rfl) ?_
  refine tcons (ok_iload_n dL_isDispensed_47 rfl rfl) ?_
  refine tcons (ok_icmp_ne dL_isDispensed_48 rfl rfl) ?_
  refine tcons (ok_aload_n dL_isDispensed_51 rfl rfl) ?_
  refine tcons (ok_iload dL_isDispensed_52 rfl) ?_
  refine tcons (ok_iaload dL_isDispensed_54 rfl) ?_
  refine tcons (ok_bipush dL_isDispensed_55 rfl rfl) ?_
  refine tcons (ok_idiv dL_isDispensed_57 rfl) ?_
  refine tcons (ok_bipush dL_isDispensed_58 rfl rfl) ?_
  refine tcons (ok_irem dL_isDispensed_60 rfl) ?_
  refine tcons (ok_iload_n dL_isDispensed_61 rfl rfl) ?_
  refine tcons (ok_icmp_ne dL_isDispensed_62 rfl rfl) ?_
  refine tcons (ok_iconst dL_isDispensed_65 rfl rfl) ?_
  refine tcons (ok_goto dL_isDispensed_66 rfl) ?_
  refine tcons (ok_iconst dL_isDispensed_69 rfl rfl) ?_
  refine tcons (ok_istore dL_isDispensed_70 (by decide) rfl) ?_
  refine tcons (ok_iload dL_isDispensed_72 rfl) ?_
  refine tcons (ok_if_ne dL_isDispensed_74 rfl rfl) ?_
  refine tcons (ok_iload dL_isDispensed_77 rfl) ?_
  refine tcons (ok_if_eq dL_isDispensed_79 rfl rfl) ?_
  refine tcons (ok_aload_n dL_isDispensed_82 rfl rfl) ?_
  refine tcons (ok_iload dL_isDispensed_83 rfl) ?_
  refine tcons (ok_iaload dL_isDispensed_85 rfl) ?_
  refine tcons (ok_sipush dL_isDispensed_86 rfl rfl) ?_
  refine tcons (ok_idiv dL_isDispensed_89 rfl) ?_
  refine tcons (ok_iload_n dL_isDispensed_90 rfl rfl) ?_
  refine tcons (ok_icmp_ne dL_isDispensed_91 rfl rfl) ?_
  refine tcons (ok_iconst dL_isDispensed_94 rfl rfl) ?_
  refine tcons (ok_goto dL_isDispensed_95 rfl) ?_
  refine tcons (ok_iconst dL_isDispensed_98 rfl rfl) ?_
  refine tcons (ok_istore dL_isDispensed_99 (by decide) rfl) ?_
  refine tcons (ok_iinc dL_isDispensed_101 rfl (by decide) rfl) ?_
  refine tcons (ok_goto dL_isDispensed_104 rfl) ?_
  refine tcons (ok_iload dL_isDispensed_107 rfl) ?_
  refine tcons (ok_zreturn rfl (Or.inl rfl) dL_isDispensed_109) ?_
  exact fun _ h => nomatch h
def sp_L_isDispensed : Spc := fun av s N _ => match av with
  | [.inl (.inr (23, 0)), .inl (.inl one), .inl (.inl oth), .inl (.inl kind)] => ∃ n : Nat, n ≤ 15 ∧ s.2.1 23 0 15 = nI n ∧ br (∃ j, j < n ∧ dsP s one oth kind j) N s
  | _ => False
set_option maxRecDepth 20000 in
set_option maxHeartbeats 2000000 in
theorem M_L_isDispensed : AMet yL_isDispensed cL_isDispensed 7 (some .boolean) 0 0 sp_L_isDispensed := by
  refine AMet.rn (own := RL) (by decide) rfl [0, 1, 2, 3, 4, 5, 6] rfl tok_L_isDispensed ?_
  intro av s0 N X h Z run
  unfold sp_L_isDispensed at h
  split at h
  rotate_left
  · exact h.elim
  rename_i one oth kind
  obtain ⟨n, hn, hg, h⟩ := h
  have b15 : Ib 15 16 := nIb (k := 15) (by decide) (by decide)
  have hg2 : s0.2.1 23 0 (Int32.toNatClampNeg 15) = nI n := hg
  have lp := loop_up (n := n) (P := fun k => ∀ x : Int32, Bv x (∃ j, j < k ∧ dsP s0 one oth kind j) → Z 6 0 [(0, .inr (23, 0)), (1, .inl one), (2, .inl oth), (3, .inl kind), (4, .inl x), (5, .inl (nI k))] [] s0) ?_ ?_ 0 (Nat.zero_le _)
  · refine run.go [6] 20 ?_
    repeat' (first | apply And.intro | (intro q; exact absurd q (by decide)) | (intro q; exact absurd (by decide) q) | (intro q; exact absurd rfl q) | intro _)
    all_goals first | (exact trivial) | decide | (exact (rfl : (0 : Nat) = 0)) | (exact Nat.le_of_ble_eq_true rfl) | contradiction | (exact lp _ (Bv_f ex_0))
  · intro x hx
    have hle : s0.2.1 23 0 15 ≤ nI n := by rw [hg]; exact nI_le (Nat.le_refl _) (by omega)
    refine run.go [] 30 ?_
    repeat' (first | apply And.intro | (intro q; exact absurd q (by decide)) | (intro q; exact absurd (by decide) q) | (intro q; exact absurd rfl q) | (intro q; exact absurd q hle) | (intro q; exact absurd hle q) | intro _)
    all_goals first | (exact b15) | (exact Bv_01 hx) | (exact br_of h hx) | (exact trivial) | decide | (exact (rfl : (0 : Nat) = 0)) | (exact Nat.le_of_ble_eq_true rfl) | contradiction
  · intro k hk ih x hx
    have ck : (nI k).toNatClampNeg = k := nI_clamp (by omega)
    have hle : ¬ s0.2.1 23 0 15 ≤ nI k := by rw [hg]; exact nI_ge hk (by omega)
    have hb : Ib (nI k) 16 := nIb (by omega) (by decide)
    have j2 : ∀ y z : Int32, Bv z ((∃ j, j < k ∧ dsP s0 one oth kind j) ∨ dsP s0 one oth kind k) → Z 99 0 [(0, .inr (23, 0)), (1, .inl one), (2, .inl oth), (3, .inl kind), (4, .inl x), (5, .inl (nI k)), (6, .inl y)] [aI z] s0 := by
      intro y z hz
      have ih := ih _ (Bv_iff hz ex_s.symm)
      rw [← nIs] at ih
      exact run.go [6] 20 (run.take 6 ih)
    clear ih
    have j1 : ∀ y : Int32, Bv y ((irm (s0.2.1 23 0 k) 16 = one ∧ irm (s0.2.1 23 0 k / 16) 16 = oth) ∨ (irm (s0.2.1 23 0 k) 16 = oth ∧ irm (s0.2.1 23 0 k / 16) 16 = one)) → Z 70 0 [(0, .inr (23, 0)), (1, .inl one), (2, .inl oth), (3, .inl kind), (4, .inl x), (5, .inl (nI k))] [aI y] s0 := by
      intro y hy
      rcases hx with ⟨rfl, hA⟩ | ⟨rfl, hA⟩
      · refine run.go [99] 40 ?_
        repeat' (first | apply And.intro | (intro q; exact absurd q (by decide)) | (intro q; exact absurd (by decide) q) | (intro q; exact absurd rfl q) | intro _)
        all_goals first | (exact hb) | (exact trivial) | decide | (exact (rfl : (0 : Nat) = 0)) | (exact Nat.le_of_ble_eq_true rfl) | contradiction | (exact j2 _ _ (Bv_t (Or.inl hA)))
      · rcases hy with ⟨rfl, hB⟩ | ⟨rfl, hB⟩
        · refine run.go [99] 40 ?_
          repeat' (first | apply And.intro | (intro q; exact absurd q (by decide)) | (intro q; exact absurd (by decide) q) | (intro q; exact absurd rfl q) | intro _)
          all_goals first | (exact hb) | (exact trivial) | decide | (exact (rfl : (0 : Nat) = 0)) | (exact Nat.le_of_ble_eq_true rfl) | contradiction | skip
          all_goals (simp only [ck] at *)
          · rename_i q
            exact j2 _ _ (Bv_f (fun z => z.elim hA (fun z => q z.2)))
          · rename_i q
            exact j2 _ _ (Bv_t (Or.inr ⟨hB, Classical.not_not.mp q⟩))
        · refine run.go [99] 40 ?_
          repeat' (first | apply And.intro | (intro q; exact absurd q (by decide)) | (intro q; exact absurd (by decide) q) | (intro q; exact absurd rfl q) | intro _)
          all_goals first | (exact hb) | (exact trivial) | decide | (exact (rfl : (0 : Nat) = 0)) | (exact Nat.le_of_ble_eq_true rfl) | contradiction | (exact j2 _ _ (Bv_f (fun z => z.elim hA (fun z => hB z.1))))
    clear j2
    refine run.go [70] 60 ?_
    repeat' (first | apply And.intro | (intro q; exact absurd q (by decide)) | (intro q; exact absurd (by decide) q) | (intro q; exact absurd rfl q) | (intro q; exact absurd q hle) | (intro q; exact absurd hle q) | intro _)
    all_goals first | (exact b15) | (exact hb) | (exact trivial) | decide | (exact (rfl : (0 : Nat) = 0)) | (exact Nat.le_of_ble_eq_true rfl) | contradiction | skip
    all_goals (simp only [ck] at *)
    all_goals first | (exact j1 _ (Bv_t (by grind))) | (exact j1 _ (Bv_f (by grind)))

