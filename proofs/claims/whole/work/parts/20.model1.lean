/-! the model's small methods -/
def bI (p : Prop) [Decidable p] : Int32 := if p then 1 else 0
theorem dX5_isIn_0 : decode cX5_isIn 0 = .ok (.iload_n 0, 1) := by decide +kernel
theorem dX5_isIn_1 : decode cX5_isIn 1 = .ok (.iload_n 1, 1) := by decide +kernel
theorem dX5_isIn_2 : decode cX5_isIn 2 = .ok (.if_icmp .lt 12, 3) := by decide +kernel
theorem dX5_isIn_5 : decode cX5_isIn 5 = .ok (.iload_n 0, 1) := by decide +kernel
theorem dX5_isIn_6 : decode cX5_isIn 6 = .ok (.iload_n 2, 1) := by decide +kernel
theorem dX5_isIn_7 : decode cX5_isIn 7 = .ok (.if_icmp .gt 7, 3) := by decide +kernel
theorem dX5_isIn_10 : decode cX5_isIn 10 = .ok (.iconst 1, 1) := by decide +kernel
theorem dX5_isIn_11 : decode cX5_isIn 11 = .ok (.goto 4, 3) := by decide +kernel
theorem dX5_isIn_14 : decode cX5_isIn 14 = .ok (.iconst 0, 1) := by decide +kernel
theorem dX5_isIn_15 : decode cX5_isIn 15 = .ok (.ireturn, 1) := by decide +kernel
def tab_X5_isIn : List (Nat × Sem) := [(0, op_il 0 1), (1, op_il 1 2), (2, op_cmp (fun x y => x < y) 14 5), (5, op_il 0 6), (6, op_il 2 7), (7, op_cmp (fun x y => y < x) 14 10), (10, op_ic 1 11), (11, op_go 15), (14, op_ic 0 15), (15, op_zret)]
set_option maxRecDepth 20000 in
theorem tok_X5_isIn : ∀ q ∈ tab_X5_isIn, Snd RX5 cX5_isIn 3 0 0 (some .boolean) q.1 q.2 := by
  unfold tab_X5_isIn
  refine tcons (ok_iload_n dX5_isIn_0 rfl rfl) ?_
  refine tcons (ok_iload_n dX5_isIn_1 rfl rfl) ?_
  refine tcons (ok_icmp_lt dX5_isIn_2 rfl rfl) ?_
  refine tcons (ok_iload_n dX5_isIn_5 rfl rfl) ?_
  refine tcons (ok_iload_n dX5_isIn_6 rfl rfl) ?_
  refine tcons (ok_icmp_gt dX5_isIn_7 rfl rfl) ?_
  refine tcons (ok_iconst dX5_isIn_10 rfl rfl) ?_
  refine tcons (ok_goto dX5_isIn_11 rfl) ?_
  refine tcons (ok_iconst dX5_isIn_14 rfl rfl) ?_
  refine tcons (ok_zreturn rfl (Or.inl rfl) dX5_isIn_15) ?_
  exact fun _ h => nomatch h
def sp_X5_isIn : Spc := fun av s N _ => match av with
  | [.inl (.inl v), .inl (.inl a), .inl (.inl b)] => N (some (aI (bI (¬ v < a ∧ ¬ b < v)))) s
  | _ => False
theorem M_X5_isIn : AMet yX5_isIn cX5_isIn 3 (some .boolean) 0 0 sp_X5_isIn := by
  refine AMet.mk (own := RX5) (by decide) rfl [0, 1, 2] rfl tok_X5_isIn 40 ?_
  intro av s0 N X h
  unfold sp_X5_isIn at h
  split at h
  · refine ⟨fun _ => none, ?_, fun pc P hP => nomatch hP⟩
    repeat' (first | apply And.intro | intro _)
    all_goals simp_all [bI]
  · exact h.elim

