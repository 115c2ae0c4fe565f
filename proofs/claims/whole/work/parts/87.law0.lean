/-! the law's instructions: the loop's head and end -/
theorem dL_law_23 : decode cL_law 23 = .ok (.iload 4, 2) := by decide +kernel
theorem dL_law_25 : decode cL_law 25 = .ok (.aload_n 0, 1) := by decide +kernel
theorem dL_law_26 : decode cL_law 26 = .ok (.arraylength, 1) := by decide +kernel
theorem dL_law_27 : decode cL_law 27 = .ok (.iconst 5, 1) := by decide +kernel
theorem dL_law_28 : decode cL_law 28 = .ok (.isub, 1) := by decide +kernel
theorem dL_law_29 : decode cL_law 29 = .ok (.if_icmp .gt 2022, 3) := by decide +kernel
theorem dL_law_32 : decode cL_law 32 = .ok (.aload_n 0, 1) := by decide +kernel
theorem dL_law_33 : decode cL_law 33 = .ok (.iload 4, 2) := by decide +kernel
theorem dL_law_35 : decode cL_law 35 = .ok (.iaload, 1) := by decide +kernel
theorem dL_law_36 : decode cL_law 36 = .ok (.bipush 31, 2) := by decide +kernel
theorem dL_law_38 : decode cL_law 38 = .ok (.iand, 1) := by decide +kernel
theorem dL_law_39 : decode cL_law 39 = .ok (.tableswitch 2006 0 28 #[129, 221, 289, 357, 393, 456, 512, 572, 632, 695, 787, 823, 859, 915, 1023, 1091, 1171, 1227, 1307, 1363, 1399, 1455, 1523, 1591, 1647, 1715, 1783, 1858, 1926], 129) := by decide +kernel
def tab_lawH (L : Nat) (xs : Nat → Int32) : List (Nat × Sem) := [(23, op_il 4 25), (25, op_al 0 26), (26, op_slen L 27), (27, op_ic 5 28), (28, op_bin (fun x y => x - y) 29), (29, op_cmp (fun x y => y < x) 2051 32), (32, op_al 0 33), (33, op_il 4 35), (35, op_sld L xs 36), (36, op_ic 31 38), (38, op_bin (fun x y => x &&& y) 39), (39, op_sw [(0, 168), (1, 260), (2, 328), (3, 396), (4, 432), (5, 495), (6, 551), (7, 611), (8, 671), (9, 734), (10, 826), (11, 862), (12, 898), (13, 954), (14, 1062), (15, 1130), (16, 1210), (17, 1266), (18, 1346), (19, 1402), (20, 1438), (21, 1494), (22, 1562), (23, 1630), (24, 1686), (25, 1754), (26, 1822), (27, 1897), (28, 1965)] 2045)]
set_option maxRecDepth 20000 in
theorem tok_lawH {L : Nat} {xs : Nat → Int32} : ∀ q ∈ tab_lawH L xs, LSnd L xs RL cL_law 7 15 150256 ret q.1 q.2 := by
  unfold tab_lawH
  refine lcons (lsnd_g (snd_g (ok_iload dL_law_23 rfl))) ?_
  refine lcons (lsnd_g (snd_g (ok_aload_n dL_law_25 rfl rfl))) ?_
  refine lcons (ok_slen dL_law_26 rfl) ?_
  refine lcons (lsnd_g (snd_g (ok_iconst dL_law_27 rfl rfl))) ?_
  refine lcons (lsnd_g (snd_g (ok_isub dL_law_28 rfl))) ?_
  refine lcons (lsnd_g (snd_g (ok_icmp_gt dL_law_29 rfl rfl))) ?_
  refine lcons (lsnd_g (snd_g (ok_aload_n dL_law_32 rfl rfl))) ?_
  refine lcons (lsnd_g (snd_g (ok_iload dL_law_33 rfl))) ?_
  refine lcons (ok_sld dL_law_35 rfl) ?_
  refine lcons (lsnd_g (snd_g (ok_bipush dL_law_36 rfl rfl))) ?_
  refine lcons (lsnd_g (snd_g (ok_iand dL_law_38 rfl))) ?_
  refine lcons (lsnd_g (snd_g (ok_table rfl rfl rfl rfl dL_law_39))) ?_
  exact fun _ h => nomatch h
theorem dL_law_2045 : decode cL_law 2045 = .ok (.iinc 4 5, 3) := by decide +kernel
theorem dL_law_2048 : decode cL_law 2048 = .ok (.goto (-2025), 3) := by decide +kernel
theorem dL_law_2051 : decode cL_law 2051 = .ok (.iconst 1, 1) := by decide +kernel
theorem dL_law_2052 : decode cL_law 2052 = .ok (.ireturn, 1) := by decide +kernel
def tab_lawE (L : Nat) (xs : Nat → Int32) : List (Nat × Sem) := [(2045, op_inc 4 5 2048), (2048, op_go 23), (2051, op_ic 1 2052), (2052, op_lret)]
set_option maxRecDepth 20000 in
theorem tok_lawE {L : Nat} {xs : Nat → Int32} : ∀ q ∈ tab_lawE L xs, LSnd L xs RL cL_law 7 15 150256 ret q.1 q.2 := by
  unfold tab_lawE
  refine lcons (lsnd_g (snd_g (ok_iinc dL_law_2045 rfl (by decide) rfl))) ?_
  refine lcons (lsnd_g (snd_g (ok_goto dL_law_2048 rfl))) ?_
  refine lcons (lsnd_g (snd_g (ok_iconst dL_law_2051 rfl rfl))) ?_
  refine lcons (ok_lret dL_law_2052) ?_
  exact fun _ h => nomatch h

