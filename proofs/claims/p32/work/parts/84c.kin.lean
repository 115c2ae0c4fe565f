/-! the law's kin -/
/-- far, one place less if that is less -/
def stpK (F : Nat → Nat) (k pa : Nat) : Nat → Nat := fun j => if 0 < pa ∧ j = pa - 1 then (if F k + 1 < F j then F k + 1 else F j) else F j
def lnW (fa mo : Nat → Nat) : Nat → (Nat → Nat) → (Nat → Nat)
  | 0, F => F
  | k + 1, F => lnW fa mo k (stpK (stpK F (k + 1) (fa (k + 1))) (k + 1) (mo (k + 1)))
def ln0 (f : Nat) : Nat → Nat := fun j => if j = f then 0 else 50
def lnF (fa mo : Nat → Nat) (f : Nat) : Nat → Nat := lnW fa mo f (ln0 f)
/-- a person's row of the law: where home, which rite, banned, dead, father and mother -/
def pkP (ho ri ba de fa mo : Nat) : Nat := ho + 8 * ri + 32 * ba + 64 * de + 128 * fa + 4096 * mo
def pR (s : Sg) (k ho ri ba de fa mo : Nat) : Prop := (ho < 8 ∧ ri < 4 ∧ ba < 2 ∧ de < 2 ∧ fa < 17 ∧ mo < 17) ∧ s.2.1 20 0 k = nI (pkP ho ri ba de fa mo)
/-- fathers and mothers of the first n: earlier ones; 0: none -/
def paR (s : Sg) (n : Nat) (fa mo : Nat → Nat) : Prop := n ≤ 16 ∧ ∀ k, k < n → fa k ≤ k ∧ mo k ≤ k ∧ ∃ ho ri ba de : Nat, pR s k ho ri ba de (fa k) (mo k)
theorem pR_lt {s : Sg} {k ho ri ba de fa mo : Nat} (h : pR s k ho ri ba de fa mo) : pkP ho ri ba de fa mo < 2 ^ 31 := by
  have := h.1
  unfold pkP
  omega
theorem pR_fa {s : Sg} {k ho ri ba de fa mo : Nat} (h : pR s k ho ri ba de fa mo) : irm (s.2.1 20 0 k / 128) 32 = nI fa := by
  have h2 := pR_lt h
  rw [h.2, show (128 : Int32) = nI 128 from rfl, show (32 : Int32) = nI 32 from rfl, divN h2 (by decide) (by decide), irmN (by omega) (by decide) (by decide)]
  have := h.1
  unfold pkP
  congr 1
  omega
theorem pR_mo {s : Sg} {k ho ri ba de fa mo : Nat} (h : pR s k ho ri ba de fa mo) : s.2.1 20 0 k / 4096 = nI mo := by
  have h2 := pR_lt h
  rw [h.2, show (4096 : Int32) = nI 4096 from rfl, divN h2 (by decide) (by decide)]
  have := h.1
  unfold pkP
  congr 1
  omega
theorem stpK_le {F : Nat → Nat} {k pa : Nat} (h : ∀ j, F j ≤ 50) : ∀ j, stpK F k pa j ≤ 50 := by
  intro j
  have h1 := h j
  unfold stpK
  split
  · split <;> omega
  · exact h1
theorem stpK_0 {F : Nat → Nat} {k : Nat} : stpK F k 0 = F := by
  funext j
  unfold stpK
  rw [if_neg (by omega)]
def nF (F : Nat → Nat) : Nat → Int32 := fun j => nI (F j)
theorem stG_upd {s : Sg} {t i n p : Nat} {F G : Nat → Int32} {v : Int32} (hp : p < n) (h : ∀ j, j < n → G j = if j = p then v else F j) : stS (stG s t i n F) t i p v = stG s t i n G := by
  refine Sg_ext rfl (fun a b c => ?_) rfl
  rw [stS_get, stG_get, stG_get]
  by_cases e : a = t ∧ b = i
  · obtain ⟨rfl, rfl⟩ := e
    by_cases e2 : c = p
    · rw [if_pos ⟨rfl, rfl, e2⟩, if_pos ⟨rfl, rfl, by omega⟩, h c (by omega), if_pos e2]
    · rw [if_neg (fun q => e2 q.2.2)]
      by_cases e3 : c < n
      · rw [if_pos ⟨rfl, rfl, e3⟩, if_pos ⟨rfl, rfl, e3⟩, h c e3, if_neg e2]
      · rw [if_neg (by omega), if_neg (by omega)]
  · rw [if_neg (by omega), if_neg (by omega), if_neg (by omega)]
/-- the parent's place in far: less, if it is -/
theorem stpK_upd {s : Sg} {x k pa : Nat} {F : Nat → Nat} (hpa : 0 < pa) (h16 : pa ≤ 16) (hF : ∀ j, F j ≤ 50) : stS (stG s 31 x 16 (nF F)) 31 x (pa - 1) (if nI (F k) + 1 < nI (F (pa - 1)) then nI (F k) + 1 else nI (F (pa - 1))) = stG s 31 x 16 (nF (stpK F k pa)) := by
  refine stG_upd (by omega) (fun j hj => ?_)
  have h1 := hF k
  have h2 := hF (pa - 1)
  have e : (nI (F k) + 1 < nI (F (pa - 1))) ↔ F k + 1 < F (pa - 1) := by rw [nIs]; exact nI_ltI (by omega) (by omega)
  show nI (stpK F k pa j) = if j = pa - 1 then _ else nI (F j)
  unfold stpK
  by_cases hjp : j = pa - 1
  · subst hjp
    rw [if_pos ⟨hpa, rfl⟩, if_pos rfl]
    by_cases hc : F k + 1 < F (pa - 1)
    · rw [if_pos hc, if_pos (e.mpr hc), nIs]
    · rw [if_neg hc, if_neg (fun q => hc (e.mp q))]
  · rw [if_neg (fun q => hjp q.2), if_neg hjp]
theorem dL_lines_0 : decode cL_lines 0 = .ok (.iconst 0, 1) := by decide +kernel
theorem dL_lines_1 : decode cL_lines 1 = .ok (.istore_n 3, 1) := by decide +kernel
theorem dL_lines_2 : decode cL_lines 2 = .ok (.iload_n 3, 1) := by decide +kernel
theorem dL_lines_3 : decode cL_lines 3 = .ok (.bipush 16, 2) := by decide +kernel
theorem dL_lines_5 : decode cL_lines 5 = .ok (.if_icmp .ge 23, 3) := by decide +kernel
theorem dL_lines_8 : decode cL_lines 8 = .ok (.aload_n 2, 1) := by decide +kernel
theorem dL_lines_9 : decode cL_lines 9 = .ok (.iload_n 3, 1) := by decide +kernel
theorem dL_lines_10 : decode cL_lines 10 = .ok (.iload_n 3, 1) := by decide +kernel
theorem dL_lines_11 : decode cL_lines 11 = .ok (.iload_n 1, 1) := by decide +kernel
theorem dL_lines_12 : decode cL_lines 12 = .ok (.if_icmp .ne 7, 3) := by decide +kernel
theorem dL_lines_15 : decode cL_lines 15 = .ok (.iconst 0, 1) := by decide +kernel
theorem dL_lines_16 : decode cL_lines 16 = .ok (.goto 5, 3) := by decide +kernel
theorem dL_lines_19 : decode cL_lines 19 = .ok (.bipush 50, 2) := by decide +kernel
theorem dL_lines_21 : decode cL_lines 21 = .ok (.iastore, 1) := by decide +kernel
theorem dL_lines_22 : decode cL_lines 22 = .ok (.iinc 3 1, 3) := by decide +kernel
theorem dL_lines_25 : decode cL_lines 25 = .ok (.goto (-23), 3) := by decide +kernel
theorem dL_lines_28 : decode cL_lines 28 = .ok (.iload_n 1, 1) := by decide +kernel
theorem dL_lines_29 : decode cL_lines 29 = .ok (.istore_n 3, 1) := by decide +kernel
theorem dL_lines_30 : decode cL_lines 30 = .ok (.iload_n 3, 1) := by decide +kernel
theorem dL_lines_31 : decode cL_lines 31 = .ok (.ifCond .le 100, 3) := by decide +kernel
theorem dL_lines_34 : decode cL_lines 34 = .ok (.aload_n 0, 1) := by decide +kernel
theorem dL_lines_35 : decode cL_lines 35 = .ok (.iload_n 3, 1) := by decide +kernel
theorem dL_lines_36 : decode cL_lines 36 = .ok (.iaload, 1) := by decide +kernel
theorem dL_lines_37 : decode cL_lines 37 = .ok (.sipush 128, 3) := by decide +kernel
theorem dL_lines_40 : decode cL_lines 40 = .ok (.idiv, 1) := by decide +kernel
theorem dL_lines_41 : decode cL_lines 41 = .ok (.bipush 32, 2) := by decide +kernel
theorem dL_lines_43 : decode cL_lines 43 = .ok (.irem, 1) := by decide +kernel
theorem dL_lines_44 : decode cL_lines 44 = .ok (.iconst 1, 1) := by decide +kernel
theorem dL_lines_45 : decode cL_lines 45 = .ok (.isub, 1) := by decide +kernel
theorem dL_lines_46 : decode cL_lines 46 = .ok (.istore 4, 2) := by decide +kernel
theorem dL_lines_48 : decode cL_lines 48 = .ok (.aload_n 0, 1) := by decide +kernel
theorem dL_lines_49 : decode cL_lines 49 = .ok (.iload_n 3, 1) := by decide +kernel
theorem dL_lines_50 : decode cL_lines 50 = .ok (.iaload, 1) := by decide +kernel
theorem dL_lines_51 : decode cL_lines 51 = .ok (.sipush 4096, 3) := by decide +kernel
theorem dL_lines_54 : decode cL_lines 54 = .ok (.idiv, 1) := by decide +kernel
theorem dL_lines_55 : decode cL_lines 55 = .ok (.iconst 1, 1) := by decide +kernel
theorem dL_lines_56 : decode cL_lines 56 = .ok (.isub, 1) := by decide +kernel
theorem dL_lines_57 : decode cL_lines 57 = .ok (.istore 5, 2) := by decide +kernel
theorem dL_lines_59 : decode cL_lines 59 = .ok (.iload 4, 2) := by decide +kernel
theorem dL_lines_61 : decode cL_lines 61 = .ok (.ifCond .lt 31, 3) := by decide +kernel
theorem dL_lines_64 : decode cL_lines 64 = .ok (.aload_n 2, 1) := by decide +kernel
theorem dL_lines_65 : decode cL_lines 65 = .ok (.iload 4, 2) := by decide +kernel
theorem dL_lines_67 : decode cL_lines 67 = .ok (.aload_n 2, 1) := by decide +kernel
theorem dL_lines_68 : decode cL_lines 68 = .ok (.iload_n 3, 1) := by decide +kernel
theorem dL_lines_69 : decode cL_lines 69 = .ok (.iaload, 1) := by decide +kernel
theorem dL_lines_70 : decode cL_lines 70 = .ok (.iconst 1, 1) := by decide +kernel
theorem dL_lines_71 : decode cL_lines 71 = .ok (.iadd, 1) := by decide +kernel
theorem dL_lines_72 : decode cL_lines 72 = .ok (.aload_n 2, 1) := by decide +kernel
theorem dL_lines_73 : decode cL_lines 73 = .ok (.iload 4, 2) := by decide +kernel
theorem dL_lines_75 : decode cL_lines 75 = .ok (.iaload, 1) := by decide +kernel
theorem dL_lines_76 : decode cL_lines 76 = .ok (.if_icmp .ge 11, 3) := by decide +kernel
theorem dL_lines_79 : decode cL_lines 79 = .ok (.aload_n 2, 1) := by decide +kernel
theorem dL_lines_80 : decode cL_lines 80 = .ok (.iload_n 3, 1) := by decide +kernel
theorem dL_lines_81 : decode cL_lines 81 = .ok (.iaload, 1) := by decide +kernel
theorem dL_lines_82 : decode cL_lines 82 = .ok (.iconst 1, 1) := by decide +kernel
theorem dL_lines_83 : decode cL_lines 83 = .ok (.iadd, 1) := by decide +kernel
theorem dL_lines_84 : decode cL_lines 84 = .ok (.goto 7, 3) := by decide +kernel
theorem dL_lines_87 : decode cL_lines 87 = .ok (.aload_n 2, 1) := by decide +kernel
theorem dL_lines_88 : decode cL_lines 88 = .ok (.iload 4, 2) := by decide +kernel
theorem dL_lines_90 : decode cL_lines 90 = .ok (.iaload, 1) := by decide +kernel
theorem dL_lines_91 : decode cL_lines 91 = .ok (.iastore, 1) := by decide +kernel
theorem dL_lines_92 : decode cL_lines 92 = .ok (.iload 5, 2) := by decide +kernel
theorem dL_lines_94 : decode cL_lines 94 = .ok (.ifCond .lt 31, 3) := by decide +kernel
theorem dL_lines_97 : decode cL_lines 97 = .ok (.aload_n 2, 1) := by decide +kernel
theorem dL_lines_98 : decode cL_lines 98 = .ok (.iload 5, 2) := by decide +kernel
theorem dL_lines_100 : decode cL_lines 100 = .ok (.aload_n 2, 1) := by decide +kernel
theorem dL_lines_101 : decode cL_lines 101 = .ok (.iload_n 3, 1) := by decide +kernel
theorem dL_lines_102 : decode cL_lines 102 = .ok (.iaload, 1) := by decide +kernel
theorem dL_lines_103 : decode cL_lines 103 = .ok (.iconst 1, 1) := by decide +kernel
theorem dL_lines_104 : decode cL_lines 104 = .ok (.iadd, 1) := by decide +kernel
theorem dL_lines_105 : decode cL_lines 105 = .ok (.aload_n 2, 1) := by decide +kernel
theorem dL_lines_106 : decode cL_lines 106 = .ok (.iload 5, 2) := by decide +kernel
theorem dL_lines_108 : decode cL_lines 108 = .ok (.iaload, 1) := by decide +kernel
theorem dL_lines_109 : decode cL_lines 109 = .ok (.if_icmp .ge 11, 3) := by decide +kernel
theorem dL_lines_112 : decode cL_lines 112 = .ok (.aload_n 2, 1) := by decide +kernel
theorem dL_lines_113 : decode cL_lines 113 = .ok (.iload_n 3, 1) := by decide +kernel
theorem dL_lines_114 : decode cL_lines 114 = .ok (.iaload, 1) := by decide +kernel
theorem dL_lines_115 : decode cL_lines 115 = .ok (.iconst 1, 1) := by decide +kernel
theorem dL_lines_116 : decode cL_lines 116 = .ok (.iadd, 1) := by decide +kernel
theorem dL_lines_117 : decode cL_lines 117 = .ok (.goto 7, 3) := by decide +kernel
theorem dL_lines_120 : decode cL_lines 120 = .ok (.aload_n 2, 1) := by decide +kernel
theorem dL_lines_121 : decode cL_lines 121 = .ok (.iload 5, 2) := by decide +kernel
theorem dL_lines_123 : decode cL_lines 123 = .ok (.iaload, 1) := by decide +kernel
theorem dL_lines_124 : decode cL_lines 124 = .ok (.iastore, 1) := by decide +kernel
theorem dL_lines_125 : decode cL_lines 125 = .ok (.iinc 3 (-1), 3) := by decide +kernel
theorem dL_lines_128 : decode cL_lines 128 = .ok (.goto (-98), 3) := by decide +kernel
theorem dL_lines_131 : decode cL_lines 131 = .ok (.return_, 1) := by decide +kernel
def tab_L_lines : List (Nat × Sem) := [(0, op_ic 0 1), (1, op_is 3 2), (2, op_il 3 3), (3, op_ic 16 5), (5, op_cmp (fun x y => y ≤ x) 28 8), (8, op_al 2 9), (9, op_il 3 10), (10, op_il 3 11), (11, op_il 1 12), (12, op_cmp (fun x y => ¬ x = y) 19 15), (15, op_ic 0 16), (16, op_go 21), (19, op_ic 50 21), (21, op_iast 22), (22, op_inc 3 1 25), (25, op_go 2), (28, op_il 1 29), (29, op_is 3 30), (30, op_il 3 31), (31, op_if (fun x => x ≤ 0) 131 34), (34, op_al 0 35), (35, op_il 3 36), (36, op_iald 37), (37, op_ic 128 40), (40, op_dv (fun x y => x / y) 41), (41, op_ic 32 43), (43, op_dv (fun x y => irm x y) 44), (44, op_ic 1 45), (45, op_bin (fun x y => x - y) 46), (46, op_is 4 48), (48, op_al 0 49), (49, op_il 3 50), (50, op_iald 51), (51, op_ic 4096 54), (54, op_dv (fun x y => x / y) 55), (55, op_ic 1 56), (56, op_bin (fun x y => x - y) 57), (57, op_is 5 59), (59, op_il 4 61), (61, op_if (fun x => x < 0) 92 64), (64, op_al 2 65), (65, op_il 4 67), (67, op_al 2 68), (68, op_il 3 69), (69, op_iald 70), (70, op_ic 1 71), (71, op_bin (fun x y => x + y) 72), (72, op_al 2 73), (73, op_il 4 75), (75, op_iald 76), (76, op_cmp (fun x y => y ≤ x) 87 79), (79, op_al 2 80), (80, op_il 3 81), (81, op_iald 82), (82, op_ic 1 83), (83, op_bin (fun x y => x + y) 84), (84, op_go 91), (87, op_al 2 88), (88, op_il 4 90), (90, op_iald 91), (91, op_iast 92), (92, op_il 5 94), (94, op_if (fun x => x < 0) 125 97), (97, op_al 2 98), (98, op_il 5 100), (100, op_al 2 101), (101, op_il 3 102), (102, op_iald 103), (103, op_ic 1 104), (104, op_bin (fun x y => x + y) 105), (105, op_al 2 106), (106, op_il 5 108), (108, op_iald 109), (109, op_cmp (fun x y => y ≤ x) 120 112), (112, op_al 2 113), (113, op_il 3 114), (114, op_iald 115), (115, op_ic 1 116), (116, op_bin (fun x y => x + y) 117), (117, op_go 124), (120, op_al 2 121), (121, op_il 5 123), (123, op_iald 124), (124, op_iast 125), (125, op_inc 3 (-1) 128), (128, op_go 30), (131, op_vret)]
set_option maxRecDepth 20000 in
theorem tok_L_lines : ∀ q ∈ tab_L_lines, Snd RL cL_lines 6 0 0 none q.1 q.2 := by
  unfold tab_L_lines
  refine tcons (ok_iconst dL_lines_0 rfl rfl) ?_
  refine tcons (ok_istore_n dL_lines_1 rfl (by decide) rfl) ?_
  refine tcons (ok_iload_n dL_lines_2 rfl rfl) ?_
  refine tcons (ok_bipush dL_lines_3 rfl rfl) ?_
  refine tcons (ok_icmp_ge dL_lines_5 rfl rfl) ?_
  refine tcons (ok_aload_n dL_lines_8 rfl rfl) ?_
  refine tcons (ok_iload_n dL_lines_9 rfl rfl) ?_
  refine tcons (ok_iload_n dL_lines_10 rfl rfl) ?_
  refine tcons (ok_iload_n dL_lines_11 rfl rfl) ?_
  refine tcons (ok_icmp_ne dL_lines_12 rfl rfl) ?_
  refine tcons (ok_iconst dL_lines_15 rfl rfl) ?_
  refine tcons (ok_goto dL_lines_16 rfl) ?_
  refine tcons (ok_bipush dL_lines_19 rfl rfl) ?_
  refine tcons (ok_iastore dL_lines_21 rfl) ?_
  refine tcons (ok_iinc dL_lines_22 rfl (by decide) rfl) ?_
  refine tcons (ok_goto dL_lines_25 rfl) ?_
  refine tcons (ok_iload_n dL_lines_28 rfl rfl) ?_
  refine tcons (ok_istore_n dL_lines_29 rfl (by decide) rfl) ?_
  refine tcons (ok_iload_n dL_lines_30 rfl rfl) ?_
  refine tcons (ok_if_le dL_lines_31 rfl rfl) ?_
  refine tcons (ok_aload_n dL_lines_34 rfl rfl) ?_
  refine tcons (ok_iload_n dL_lines_35 rfl rfl) ?_
  refine tcons (ok_iaload dL_lines_36 rfl) ?_
  refine tcons (ok_sipush dL_lines_37 rfl rfl) ?_
  refine tcons (ok_idiv dL_lines_40 rfl) ?_
  refine tcons (ok_bipush dL_lines_41 rfl rfl) ?_
  refine tcons (ok_irem dL_lines_43 rfl) ?_
  refine tcons (ok_iconst dL_lines_44 rfl rfl) ?_
  refine tcons (ok_isub dL_lines_45 rfl) ?_
  refine tcons (ok_istore dL_lines_46 (by decide) rfl) ?_
  refine tcons (ok_aload_n dL_lines_48 rfl rfl) ?_
  refine tcons (ok_iload_n dL_lines_49 rfl rfl) ?_
  refine tcons (ok_iaload dL_lines_50 rfl) ?_
  refine tcons (ok_sipush dL_lines_51 rfl rfl) ?_
  refine tcons (ok_idiv dL_lines_54 rfl) ?_
  refine tcons (ok_iconst dL_lines_55 rfl rfl) ?_
  refine tcons (ok_isub dL_lines_56 rfl) ?_
  refine tcons (ok_istore dL_lines_57 (by decide) rfl) ?_
  refine tcons (ok_iload dL_lines_59 rfl) ?_
  refine tcons (ok_if_lt dL_lines_61 rfl rfl) ?_
  refine tcons (ok_aload_n dL_lines_64 rfl rfl) ?_
  refine tcons (ok_iload dL_lines_65 rfl) ?_
  refine tcons (ok_aload_n dL_lines_67 rfl rfl) ?_
  refine tcons (ok_iload_n dL_lines_68 rfl rfl) ?_
  refine tcons (ok_iaload dL_lines_69 rfl) ?_
  refine tcons (ok_iconst dL_lines_70 rfl rfl) ?_
  refine tcons (ok_iadd dL_lines_71 rfl) ?_
  refine tcons (ok_aload_n dL_lines_72 rfl rfl) ?_
  refine tcons (ok_iload dL_lines_73 rfl) ?_
  refine tcons (ok_iaload dL_lines_75 rfl) ?_
  refine tcons (ok_icmp_ge dL_lines_76 rfl rfl) ?_
  refine tcons (ok_aload_n dL_lines_79 rfl rfl) ?_
  refine tcons (ok_iload_n dL_lines_80 rfl rfl) ?_
  refine tcons (ok_iaload dL_lines_81 rfl) ?_
  refine tcons (ok_iconst dL_lines_82 rfl rfl) ?_
  refine tcons (ok_iadd dL_lines_83 rfl) ?_
  refine tcons (ok_goto dL_lines_84 rfl) ?_
  refine tcons (ok_aload_n dL_lines_87 rfl rfl) ?_
  refine tcons (ok_iload dL_lines_88 rfl) ?_
  refine tcons (ok_iaload dL_lines_90 rfl) ?_
  refine tcons (ok_iastore dL_lines_91 rfl) ?_
  refine tcons (ok_iload dL_lines_92 rfl) ?_
  refine tcons (ok_if_lt dL_lines_94 rfl rfl) ?_
  refine tcons (ok_aload_n dL_lines_97 rfl rfl) ?_
  refine tcons (ok_iload dL_lines_98 rfl) ?_
  refine tcons (ok_aload_n dL_lines_100 rfl rfl) ?_
  refine tcons (ok_iload_n dL_lines_101 rfl rfl) ?_
  refine tcons (ok_iaload dL_lines_102 rfl) ?_
  refine tcons (ok_iconst dL_lines_103 rfl rfl) ?_
  refine tcons (ok_iadd dL_lines_104 rfl) ?_
  refine tcons (ok_aload_n dL_lines_105 rfl rfl) ?_
  refine tcons (ok_iload dL_lines_106 rfl) ?_
  refine tcons (ok_iaload dL_lines_108 rfl) ?_
  refine tcons (ok_icmp_ge dL_lines_109 rfl rfl) ?_
  refine tcons (ok_aload_n dL_lines_112 rfl rfl) ?_
  refine tcons (ok_iload_n dL_lines_113 rfl rfl) ?_
  refine tcons (ok_iaload dL_lines_114 rfl) ?_
  refine tcons (ok_iconst dL_lines_115 rfl rfl) ?_
  refine tcons (ok_iadd dL_lines_116 rfl) ?_
  refine tcons (ok_goto dL_lines_117 rfl) ?_
  refine tcons (ok_aload_n dL_lines_120 rfl rfl) ?_
  refine tcons (ok_iload dL_lines_121 rfl) ?_
  refine tcons (ok_iaload dL_lines_123 rfl) ?_
  refine tcons (ok_iastore dL_lines_124 rfl) ?_
  refine tcons (ok_iinc dL_lines_125 rfl (by decide) rfl) ?_
  refine tcons (ok_goto dL_lines_128 rfl) ?_
  refine tcons (ok_vreturn rfl dL_lines_131) ?_
  exact fun _ h => nomatch h
def sp_L_lines : Spc := fun av s N _ => match av with
  | [.inl (.inr (20, 0)), .inl (.inl f), .inl (.inr (31, x))] => ∃ (n i : Nat) (fa mo : Nat → Nat), i < n ∧ f = nI i ∧ paR s n fa mo ∧ x < s.1 18 ∧ N none (stG s 31 x 16 (nF (lnF fa mo i)))
  | _ => False
set_option maxRecDepth 20000 in
set_option maxHeartbeats 2000000 in
theorem M_L_lines : AMet yL_lines cL_lines 6 none 0 0 sp_L_lines := by
  refine AMet.rn (own := RL) (by decide) rfl [0, 1, 2, 3, 4, 5] rfl tok_L_lines ?_
  intro av s0 N X h Z run
  unfold sp_L_lines at h
  split at h
  rotate_left
  · exact h.elim
  rename_i f x
  obtain ⟨n, i, fa, mo, hi, rfl, ⟨hn, hpa⟩, hx, h⟩ := h
  -- the second loop
  have l2 : ∀ k, k ≤ i → ∀ (G : Nat → Nat) (L5 : LC), (∀ j, G j ≤ 50) → lnW fa mo k G = lnF fa mo i → Z 30 0 [(0, .inr (20, 0)), (1, .inl (nI i)), (2, .inr (31, x)), (3, .inl (nI k))] [] (stG s0 31 x 16 (nF G)) := by
    intro k
    induction k with
    | zero =>
      intro hk G L5 hG he
      have hG2 : G = lnF fa mo i := he
      subst hG2
      refine run.go [] 20 ?_
      repeat' (first | apply And.intro | (intro q; exact absurd q (by decide)) | (intro q; exact absurd (by decide) q) | (intro q; exact absurd rfl q) | intro _)
      all_goals first | (exact trivial) | decide | (exact (rfl : (0 : Nat) = 0)) | (exact Nat.le_of_ble_eq_true rfl) | contradiction | exact h
    | succ k ih =>
      intro hk G L5 hG he
      obtain ⟨hfa, hmo, ho, ri, ba, de, hp⟩ := hpa (k + 1) (by omega)
      have ck : (nI (k + 1)).toNatClampNeg = k + 1 := nI_clamp (by omega)
      have hb17 : Ib (nI (k + 1)) 17 := nIb (by omega) (by decide)
      have hb16 : Ib (nI (k + 1)) 16 := nIb (by omega) (by decide)
      have hpos : ¬ nI (k + 1) ≤ 0 := nI_nle (by omega) (by omega)
      have e1 := pR_fa hp
      have e2 := pR_mo hp
      -- at the end of a round
      have j3 : ∀ (G3 : Nat → Nat) (p m : Int32), (∀ j, G3 j ≤ 50) → lnW fa mo k G3 = lnF fa mo i → Z 125 0 [(0, .inr (20, 0)), (1, .inl (nI i)), (2, .inr (31, x)), (3, .inl (nI (k + 1))), (4, .inl p), (5, .inl m)] [] (stG s0 31 x 16 (nF G3)) := by
        intro G3 p m h3 he3
        have z := ih (by omega) G3 [] h3 he3
        have e : nI (k + 1) + -1 = nI k := by rw [nIm2, nI_pred]
        rw [← e] at z
        exact run.go [30] 20 (run.take 4 z)
      have rd : ∀ (F : Nat → Nat) (c : Nat), c < 16 → (stG s0 31 x 16 (nF F)).2.1 31 x c = nI (F c) := fun F c hc => by rw [stG_get, if_pos ⟨rfl, rfl, hc⟩]; rfl
      -- the mother
      have j2 : ∀ (G2 : Nat → Nat) (p : Int32), (∀ j, G2 j ≤ 50) → lnW fa mo k (stpK G2 (k + 1) (mo (k + 1))) = lnF fa mo i → Z 92 0 [(0, .inr (20, 0)), (1, .inl (nI i)), (2, .inr (31, x)), (3, .inl (nI (k + 1))), (4, .inl p), (5, .inl (nI (mo (k + 1)) - 1))] [] (stG s0 31 x 16 (nF G2)) := by
        intro G2 p h2 he2
        by_cases hm0 : mo (k + 1) = 0
        · have hneg : (nI (mo (k + 1)) - 1 : Int32) < 0 := by rw [hm0]; decide
          rw [hm0, stpK_0] at he2
          refine run.go [125] 20 ?_
          repeat' (first | apply And.intro | (intro q; exact absurd q (by decide)) | (intro q; exact absurd (by decide) q) | (intro q; exact absurd rfl q) | (intro q; exact absurd q hneg) | (intro q; exact absurd hneg q) | intro _)
          all_goals first | (exact trivial) | decide | (exact (rfl : (0 : Nat) = 0)) | (exact Nat.le_of_ble_eq_true rfl) | contradiction | exact j3 _ _ _ h2 he2
        · have em : nI (mo (k + 1)) - 1 = nI (mo (k + 1) - 1) := pk_sub (b := 1) (by omega)
          rw [em]
          have hnn : ¬ nI (mo (k + 1) - 1) < 0 := nI_pos (by omega)
          have cm : (nI (mo (k + 1) - 1)).toNatClampNeg = mo (k + 1) - 1 := nI_clamp (by omega)
          have hbm : Ib (nI (mo (k + 1) - 1)) 16 := nIb (by omega) (by decide)
          have r1 := rd G2 (k + 1) (by omega)
          have r2 := rd G2 (mo (k + 1) - 1) (by omega)
          have fin := j3 (stpK G2 (k + 1) (mo (k + 1))) p (nI (mo (k + 1) - 1)) (stpK_le h2) he2
          rw [← stpK_upd (by omega) (by omega) h2] at fin
          refine run.go [125] 60 ?_
          repeat' (first | apply And.intro | (intro q; exact absurd q (by decide)) | (intro q; exact absurd (by decide) q) | (intro q; exact absurd rfl q) | (intro q; exact absurd q hnn) | (intro q; exact absurd hnn q) | intro _)
          all_goals first | (exact hb16) | (exact hbm) | (exact hx) | (exact trivial) | decide | (exact (rfl : (0 : Nat) = 0)) | (exact Nat.le_of_ble_eq_true rfl) | contradiction | skip
          all_goals (simp only [ck, cm, r1, r2] at *)
          · rename_i q
            rw [if_neg (Int32.not_lt.mpr q)] at fin
            exact fin
          · rename_i q
            rw [if_pos (Int32.not_le.mp q)] at fin
            exact fin
      rw [lnW] at he
      -- the father
      have j1 : Z 59 0 [(0, .inr (20, 0)), (1, .inl (nI i)), (2, .inr (31, x)), (3, .inl (nI (k + 1))), (4, .inl (nI (fa (k + 1)) - 1)), (5, .inl (nI (mo (k + 1)) - 1))] [] (stG s0 31 x 16 (nF G)) := by
        by_cases hm0 : fa (k + 1) = 0
        · have hneg : (nI (fa (k + 1)) - 1 : Int32) < 0 := by rw [hm0]; decide
          rw [hm0, stpK_0] at he
          refine run.go [92] 20 ?_
          repeat' (first | apply And.intro | (intro q; exact absurd q (by decide)) | (intro q; exact absurd (by decide) q) | (intro q; exact absurd rfl q) | (intro q; exact absurd q hneg) | (intro q; exact absurd hneg q) | intro _)
          all_goals first | (exact trivial) | decide | (exact (rfl : (0 : Nat) = 0)) | (exact Nat.le_of_ble_eq_true rfl) | contradiction | exact j2 _ _ hG he
        · have em : nI (fa (k + 1)) - 1 = nI (fa (k + 1) - 1) := pk_sub (b := 1) (by omega)
          rw [em]
          have hnn : ¬ nI (fa (k + 1) - 1) < 0 := nI_pos (by omega)
          have cm : (nI (fa (k + 1) - 1)).toNatClampNeg = fa (k + 1) - 1 := nI_clamp (by omega)
          have hbm : Ib (nI (fa (k + 1) - 1)) 16 := nIb (by omega) (by decide)
          have r1 := rd G (k + 1) (by omega)
          have r2 := rd G (fa (k + 1) - 1) (by omega)
          have fin := j2 (stpK G (k + 1) (fa (k + 1))) (nI (fa (k + 1) - 1)) (stpK_le hG) he
          rw [← stpK_upd (by omega) (by omega) hG] at fin
          refine run.go [92] 60 ?_
          repeat' (first | apply And.intro | (intro q; exact absurd q (by decide)) | (intro q; exact absurd (by decide) q) | (intro q; exact absurd rfl q) | (intro q; exact absurd q hnn) | (intro q; exact absurd hnn q) | intro _)
          all_goals first | (exact hb16) | (exact hbm) | (exact hx) | (exact trivial) | decide | (exact (rfl : (0 : Nat) = 0)) | (exact Nat.le_of_ble_eq_true rfl) | contradiction | skip
          all_goals (simp only [ck, cm, r1, r2] at *)
          · rename_i q
            rw [if_neg (Int32.not_lt.mpr q)] at fin
            exact fin
          · rename_i q
            rw [if_pos (Int32.not_le.mp q)] at fin
            exact fin
      have g20 : ∀ c, (stG s0 31 x 16 (nF G)).2.1 20 0 c = s0.2.1 20 0 c := fun c => by rw [stG_get, if_neg (by omega)]
      have r0 := g20 (k + 1)
      refine run.go [59] 60 ?_
      repeat' (first | apply And.intro | (intro q; exact absurd q (by decide)) | (intro q; exact absurd (by decide) q) | (intro q; exact absurd rfl q) | (intro q; exact absurd q hpos) | (intro q; exact absurd hpos q) | intro _)
      all_goals first | (exact hb17) | (exact trivial) | decide | (exact (rfl : (0 : Nat) = 0)) | (exact Nat.le_of_ble_eq_true rfl) | contradiction | skip
      simp only [ck, r0, e1, e2]
      exact j1
  -- the first loop
  have l1 := loop_up (n := 16) (P := fun k => Z 2 0 [(0, .inr (20, 0)), (1, .inl (nI i)), (2, .inr (31, x)), (3, .inl (nI k))] [] (stG s0 31 x k (nF (ln0 i)))) ?_ ?_ 0 (Nat.zero_le _)
  · rw [stG_0] at l1
    exact run.go [2] 20 l1
  · have hle : (16 : Int32) ≤ nI 16 := by decide
    have z := l2 i (Nat.le_refl _) (ln0 i) [] (fun j => by unfold ln0; split <;> omega) rfl
    refine run.go [30] 20 ?_
    repeat' (first | apply And.intro | (intro q; exact absurd q (by decide)) | (intro q; exact absurd (by decide) q) | (intro q; exact absurd rfl q) | (intro q; exact absurd q hle) | (intro q; exact absurd hle q) | intro _)
    all_goals first | (exact trivial) | decide | (exact (rfl : (0 : Nat) = 0)) | (exact Nat.le_of_ble_eq_true rfl) | contradiction | exact z
  · intro k hk ih
    have ck : (nI k).toNatClampNeg = k := nI_clamp (by omega)
    have hb16 : Ib (nI k) 16 := nIb hk (by decide)
    have hle : ¬ (16 : Int32) ≤ nI k := nI_ge (b := 16) hk (by decide)
    rw [← nIs, ← stG_s (v := nF (ln0 i) k) rfl] at ih
    have j : ∀ y : Int32, y = nF (ln0 i) k → Z 21 0 [(0, .inr (20, 0)), (1, .inl (nI i)), (2, .inr (31, x)), (3, .inl (nI k))] [aI y, aI (nI k), aR 31 x] (stG s0 31 x k (nF (ln0 i))) := by
      rintro y rfl
      refine run.go [2] 20 ?_
      repeat' (first | apply And.intro | (intro q; exact absurd q (by decide)) | (intro q; exact absurd (by decide) q) | (intro q; exact absurd rfl q) | intro _)
      all_goals first | (exact hx) | (exact hb16) | (exact trivial) | decide | (exact (rfl : (0 : Nat) = 0)) | (exact Nat.le_of_ble_eq_true rfl) | contradiction | skip
      rw [ck]
      exact ih
    refine run.go [21] 20 ?_
    repeat' (first | apply And.intro | (intro q; exact absurd q (by decide)) | (intro q; exact absurd (by decide) q) | (intro q; exact absurd rfl q) | (intro q; exact absurd q hle) | (intro q; exact absurd hle q) | intro _)
    all_goals first | (exact trivial) | decide | (exact (rfl : (0 : Nat) = 0)) | (exact Nat.le_of_ble_eq_true rfl) | contradiction | skip
    · rename_i q
      refine j _ ?_
      unfold nF ln0
      rw [if_neg (fun z => q (by rw [z]))]
      rfl
    · rename_i q
      refine j _ ?_
      have e : k = i := (nI_eq (by omega) (by omega)).mp (Classical.not_not.mp q)
      unfold nF ln0
      rw [if_pos e]
      rfl

