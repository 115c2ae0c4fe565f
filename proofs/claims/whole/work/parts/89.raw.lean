/-! the law's start, over plain worlds -/
section RLaw
variable {ini : Bool} {own : String} {cc : ByteArray} {nL d U : Nat} {ret : Option FieldType} {pc nx : Nat}
/-- the answer's row -/
def rp_newL (nx : Nat) : RSem := fun g U k _ u L st w => match st with
  | .inl (.inl v) :: st' => (¬ v < 0) ∧ v.toNatClampNeg = 1 ∧ u + 1 ≤ U ∧ ∀ q : Nat, k nx (u + 1) L (aA q :: st') (w ++ [(q, .inl (g.2.1 4, 1, .inr (.inl (fun _ => 0))))])
  | _ => False
theorem rk_newlong (harr : Cond.arrayClass .long ∈ TB) (hd : decode cc pc = .ok (.newarray .long, 2)) (hn : pc + 2 = nx) : RSnd ini own cc nL d U ret pc (rp_newL nx) := by
  intro g p l e R s m args below meth c w0 hI hC W0 N Q hQ k hk u L st w h
  subst hn
  intro H locs ls hP hS hl
  unfold rp_newL at h
  split at h
  · rename_i v st'
    obtain ⟨hv0, hvn, hu, h⟩ := h
    have hR := hC.2.2.2.2.1
    have ht : ∀ w ∈ TB, w.before args s = true := fun w hw => hC.1.2.2.2.2 w (List.mem_cons_of_mem _ hw)
    subst hR
    have hum : u * 24 + 1 * 24 ≤ U * 24 := by rw [← Nat.add_mul]; exact Nat.mul_le_mul_right _ hu
    have hS9 : va_S (gA g) H H locs := ⟨Nat.le_refl _, fun _ _ _ => rfl, hS.2.2⟩
    refine va_newa (atype := .long) (ty := .long) (N' := 1) (a0 := (1, .inr (.inl (fun _ => 0)))) (H0 := H) hC.1.1 hC.1.2.1 (ht _ harr) rfl hC.2.1.1 hP.1 hP.2.1 hS9 (fun q hq => Nat.le_trans hP.2.2 hq) (fun _ => rfl) hv0 hvn (by decide) ?_ ?_ hd ?_
    · show u * 4 + 1 ≤ U * 4
      omega
    · show u * 24 + 1 ≤ U * 24
      omega
    · intro q cA H1 hK1 hP1 hD1 hS1
      have ec : cA = g.2.1 4 := GS_ty (k := 4) hC.2.1 rfl hK1
      subst ec
      have hS2 : va_S (gA g) s.heap H1 locs := ⟨Nat.le_trans hS.1 hS1.1, fun z h1 h2 => (hS1.2.1 z (Nat.lt_of_lt_of_le h1 hS.1) h2).trans (hS.2.1 z h1 h2), hS1.2.2⟩
      refine W.widen (k := (u + 1) * cU) (n := (u + 1) * sU) ?_ ?_ (hk _ _ _ _ _ (h q) H1 locs ls (RP_pu hP1 hD1 (Nat.le_trans hP.2.2 hS1.1)) hS2 hl)
      · show u * 4 + 1 ≤ (u + 1) * 4
        omega
      · show u * 24 + 1 ≤ (u + 1) * 24
        omega
  · exact h.elim
end RLaw
theorem dL_law_0 : decode cL_law 0 = .ok (.new 8, 3) := by decide +kernel
theorem dL_law_3 : decode cL_law 3 = .ok (.dup, 1) := by decide +kernel
theorem dL_law_4 : decode cL_law 4 = .ok (.invokespecial 112, 3) := by decide +kernel
theorem dL_law_7 : decode cL_law 7 = .ok (.astore_n 1, 1) := by decide +kernel
theorem dL_law_8 : decode cL_law 8 = .ok (.new 113, 3) := by decide +kernel
theorem dL_law_11 : decode cL_law 11 = .ok (.dup, 1) := by decide +kernel
theorem dL_law_12 : decode cL_law 12 = .ok (.invokespecial 115, 3) := by decide +kernel
theorem dL_law_15 : decode cL_law 15 = .ok (.astore_n 2, 1) := by decide +kernel
theorem dL_law_16 : decode cL_law 16 = .ok (.iconst 1, 1) := by decide +kernel
theorem dL_law_17 : decode cL_law 17 = .ok (.newarray .long, 2) := by decide +kernel
theorem dL_law_19 : decode cL_law 19 = .ok (.astore_n 3, 1) := by decide +kernel
theorem dL_law_20 : decode cL_law 20 = .ok (.iconst 0, 1) := by decide +kernel
theorem dL_law_21 : decode cL_law 21 = .ok (.istore 4, 2) := by decide +kernel
def tabR_law : List (Nat × RSem) := [(0, rp_new 6 1 [.null, .null, .null, .null, .null, .null, .null, .int 0] 3), (3, rp_dup 4), (4, rp_callI rs_X4_init 1 70 7), (7, rp_as 1 8), (8, rp_new 7 2 [.int 0, .int 0, .null, .null, .null, .null, .null, .null, .null, .null, .null, .null, .int 0, .null, .null, .null, .null, .null, .null, .null, .null, .int 0, .null, .null, .null, .null, .null, .null, .null, .null, .int 0, .null, .int 0] 11), (11, rp_dup 12), (12, rp_callI rs_X5_init 1 240 15), (15, rp_as 2 16), (16, rp_ic 1 17), (17, rp_newL 19), (19, rp_as 3 20), (20, rp_ic 0 21), (21, rp_is 4 23)]
set_option maxRecDepth 20000 in
theorem tokR_law : ∀ q ∈ tabR_law, RSnd false RL cL_law 7 15 150256 ret q.1 q.2 := by
  unfold tabR_law
  refine rcons (rk_new (C := RX4) (T := TX4) (n := 8) tyX4 rfl in_X4 tyX4_ok (by intro j hj; match j, hj with | 0, _ => rfl | 1, _ => rfl | 2, _ => rfl | 3, _ => rfl | 4, _ => rfl | 5, _ => rfl | 6, _ => rfl | 7, _ => rfl) w_71 w_72 w_43 (by decide) (by decide) dL_law_0 rfl) ?_
  refine rcons (rk_dup dL_law_3 rfl) ?_
  refine rcons (rk_invokeinit R_X4_init w_73 w_74 w_43 w_75 rfl ⟨by decide, by decide, by decide +kernel⟩ (by decide) (by decide) dL_law_4 rfl) ?_
  refine rcons (rk_astore_n dL_law_7 rfl (by decide) rfl) ?_
  refine rcons (rk_new (C := RX5) (T := TX5) (n := 33) tyX5 rfl in_X5 tyX5_ok (by intro j hj; match j, hj with | 0, _ => rfl | 1, _ => rfl | 2, _ => rfl | 3, _ => rfl | 4, _ => rfl | 5, _ => rfl | 6, _ => rfl | 7, _ => rfl | 8, _ => rfl | 9, _ => rfl | 10, _ => rfl | 11, _ => rfl | 12, _ => rfl | 13, _ => rfl | 14, _ => rfl | 15, _ => rfl | 16, _ => rfl | 17, _ => rfl | 18, _ => rfl | 19, _ => rfl | 20, _ => rfl | 21, _ => rfl | 22, _ => rfl | 23, _ => rfl | 24, _ => rfl | 25, _ => rfl | 26, _ => rfl | 27, _ => rfl | 28, _ => rfl | 29, _ => rfl | 30, _ => rfl | 31, _ => rfl | 32, _ => rfl | k + 33, hk => exact absurd hk (by omega)) w_987 w_988 w_49 (by decide) (by decide) dL_law_8 rfl) ?_
  refine rcons (rk_dup dL_law_11 rfl) ?_
  refine rcons (rk_invokeinit R_X5_init w_989 w_990 w_49 w_991 rfl ⟨by decide, by decide, by decide +kernel⟩ (by decide) (by decide) dL_law_12 rfl) ?_
  refine rcons (rk_astore_n dL_law_15 rfl (by decide) rfl) ?_
  refine rcons (rk_iconst dL_law_16 rfl rfl) ?_
  refine rcons (rk_newlong w_1334 dL_law_17 rfl) ?_
  refine rcons (rk_astore_n dL_law_19 rfl (by decide) rfl) ?_
  refine rcons (rk_iconst dL_law_20 rfl rfl) ?_
  refine rcons (rk_istore dL_law_21 (by decide) rfl) ?_
  exact fun _ h => nomatch h

