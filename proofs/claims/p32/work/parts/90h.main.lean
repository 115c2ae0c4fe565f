/-! the law's main: its opening -/
section Mn1
variable {X : Xt} {Z : Kt} {s : Sg} {t k w a b : Nat}
abbrev FN : Nt := fun _ _ => False
abbrev FX : Xt := fun _ _ => False
set_option maxRecDepth 100000 in
set_option maxHeartbeats 4000000 in
theorem m_fill (run : Rn tab_L_law 40000 FN FX Z) (nx : Z 95 88 (lM ++ [(13, .inl (nI 16))]) [] (stB 16)) : Z 71 88 lM [] sta0 := by
  have lp : Z 74 88 (lM ++ [(13, .inl (nI 0))]) [] (stB 0) := loop_up (n := 16) (P := fun k => Z 74 88 (lM ++ [(13, .inl (nI k))]) [] (stB k)) (by
    have h1 : (16 : Int32) ≤ nI 16 := by decide
    refine run.go [95] 40 ?_
    repeat' (first | apply And.intro | (intro q; exact absurd q (by decide)) | (intro q; exact absurd (by decide) q) | (intro q; exact absurd rfl q) | (intro q; exact absurd q h1) | (intro q; exact absurd h1 q) | intro _)
    all_goals first | (exact trivial) | (with_reducible exact Nat.le_refl _) | decide | (exact (rfl : (0 : Nat) = 0)) | (exact Nat.le_of_ble_eq_true rfl) | ((with_reducible show False); contradiction) | (exact nx)) (by
    intro k hk ih
    have h1 : ¬ (16 : Int32) ≤ nI k := nI_ge (b := 16) hk (by decide)
    have e16 : (16 : Int32) + nI k = nI (16 + k) := nI_add 16 k
    have bk : Ib ((16 : Int32) + nI k) 33 := by rw [e16]; exact nIb (by omega) (by decide)
    have c16 : ((16 : Int32) + nI k).toNatClampNeg = 16 + k := by rw [e16]; exact nI_clamp (by omega)
    have ih2 : Z 74 88 (lM ++ [(13, .inl (nI k + 1))]) [] (stS (stB k) 21 0 ((16 : Int32) + nI k).toNatClampNeg (-1)) := by
      rw [c16, nIs]
      exact ih
    refine run.go [74] 40 ?_
    repeat' (first | apply And.intro | (intro q; exact absurd q (by decide)) | (intro q; exact absurd (by decide) q) | (intro q; exact absurd rfl q) | (intro q; exact absurd q h1) | (intro q; exact absurd h1 q) | intro _)
    all_goals first | (exact bk) | (exact trivial) | (with_reducible exact Nat.le_refl _) | decide | (exact (rfl : (0 : Nat) = 0)) | (exact Nat.le_of_ble_eq_true rfl) | ((with_reducible show False); contradiction) | (exact ih2)) 0 (by decide)
  rw [show nI 0 = (0 : Int32) from rfl] at lp
  refine run.go [74] 40 ?_
  repeat' (first | apply And.intro | (intro q; exact absurd q (by decide)) | (intro q; exact absurd (by decide) q) | (intro q; exact absurd rfl q) | intro _)
  all_goals first | (exact trivial) | (with_reducible exact Nat.le_refl _) | decide | (exact (rfl : (0 : Nat) = 0)) | (exact Nat.le_of_ble_eq_true rfl) | ((with_reducible show False); contradiction) | (exact lp)
set_option maxRecDepth 100000 in
set_option maxHeartbeats 4000000 in
theorem m_open (run : Rn tab_L_law 40000 FN FX Z) (hC : CI s) (hG : GI s) (h0 : s.1 0 = 0) (h1 : s.1 1 = 0) (nx : ∀ u, u ≤ 184 → Z 195 u (lM ++ [(13, .inl 1), (14, .inl 0)]) [] s) : Z 95 88 (lM ++ [(13, .inl (nI 16))]) [] s := by
  have i0 : ¬ iC s 0 0 := fun z => absurd ((iC_N (s := s) (k := 0) (j := 0) (by omega) (by decide)).mp z) (by omega)
  have i1 : ¬ iC s 1 0 := fun z => absurd ((iC_N (s := s) (k := 1) (j := 0) (by omega) (by decide)).mp z) (by omega)
  have d1 : sp_L_does [aR 1 0, aI 0, aI 0, aI 0, aI (-1), aI 0] s (fun v s2 => s2 = s ∧ v = some (aI (-3000000))) FX := do_0 ⟨hC, hG, fun _ => ⟨rfl, rfl⟩, fun z => absurd z (fun z => z.elim (by decide) i0)⟩
  have d2 : sp_L_does [aR 1 0, aI 0, aI 36001, aI (-1), aI (-1), aI 0] s (fun v s2 => s2 = s ∧ v = some (aI (-2000000))) FX := do_0 ⟨hC, hG, fun z => absurd (Or.inl rfl) z, fun _ => ⟨fun z => absurd (Or.inl rfl) z, fun _ => ⟨fun z => absurd (Or.inl rfl) z, fun _ => ⟨fun _ => ⟨rfl, rfl⟩, fun z => absurd z.1.2 (by decide)⟩⟩⟩⟩
  have d3 : sp_L_does [aR 1 0, aI 20, aI 0, aI 0, aI 0, aI 0] s (fun v s2 => s2 = s ∧ v = some (aI (-2000000))) FX := do_20 ⟨fun _ => ⟨rfl, rfl⟩, fun z => absurd z.1 (by decide)⟩
  have d4 : sp_L_does [aR 1 0, aI 8, aI (-1), aI 0, aI 0, aI 0] s (fun v s2 => s2 = s ∧ v = some (aI (-2000000))) FX := do_8 ⟨fun _ => ⟨rfl, rfl⟩, fun z => absurd z.1 (by decide)⟩
  have d5 : sp_L_does [aR 1 0, aI 23, aI 0, aI 0, aI 0, aI 0] s (fun v s2 => s2 = s ∧ v = some (aI (-3000000))) FX := do_23 ⟨hC, fun _ => ⟨rfl, rfl⟩, fun z => absurd z i0⟩
  have d6 : sp_L_does [aR 1 0, aI 21, aI 0, aI 9, aI 0, aI 0] s (fun v s2 => s2 = s ∧ v = some (aI (-3000000))) FX := do_21 ⟨hC, fun _ => ⟨rfl, rfl⟩, fun z => absurd z i1⟩
  refine run.go [195] 120 ?_
  repeat' (first | apply And.intro | (intro q; exact absurd q (by decide)) | (intro q; exact absurd (by decide) q) | (intro q; exact absurd rfl q) | intro _)
  all_goals first | (exact trivial) | (with_reducible exact Nat.le_refl _) | decide | (exact (rfl : (0 : Nat) = 0)) | (exact Nat.le_of_ble_eq_true rfl) | ((with_reducible show False); contradiction) | skip
  refine ⟨_, d1, ?_⟩
  rintro r s1 ⟨rfl, rfl⟩
  repeat' (first | apply And.intro | (intro q; exact absurd q (by decide)) | (intro q; exact absurd (by decide) q) | (intro q; exact absurd rfl q) | intro _)
  all_goals first | (exact trivial) | (with_reducible exact Nat.le_refl _) | decide | (exact (rfl : (0 : Nat) = 0)) | (exact Nat.le_of_ble_eq_true rfl) | ((with_reducible show False); contradiction) | skip
  refine ⟨_, d2, ?_⟩
  rintro r s2 ⟨rfl, rfl⟩
  repeat' (first | apply And.intro | (intro q; exact absurd q (by decide)) | (intro q; exact absurd (by decide) q) | (intro q; exact absurd rfl q) | intro _)
  all_goals first | (exact trivial) | (with_reducible exact Nat.le_refl _) | decide | (exact (rfl : (0 : Nat) = 0)) | (exact Nat.le_of_ble_eq_true rfl) | ((with_reducible show False); contradiction) | skip
  refine ⟨_, d3, ?_⟩
  rintro r s3 ⟨rfl, rfl⟩
  repeat' (first | apply And.intro | (intro q; exact absurd q (by decide)) | (intro q; exact absurd (by decide) q) | (intro q; exact absurd rfl q) | intro _)
  all_goals first | (exact trivial) | (with_reducible exact Nat.le_refl _) | decide | (exact (rfl : (0 : Nat) = 0)) | (exact Nat.le_of_ble_eq_true rfl) | ((with_reducible show False); contradiction) | skip
  refine ⟨_, d4, ?_⟩
  rintro r s4 ⟨rfl, rfl⟩
  repeat' (first | apply And.intro | (intro q; exact absurd q (by decide)) | (intro q; exact absurd (by decide) q) | (intro q; exact absurd rfl q) | intro _)
  all_goals first | (exact trivial) | (with_reducible exact Nat.le_refl _) | decide | (exact (rfl : (0 : Nat) = 0)) | (exact Nat.le_of_ble_eq_true rfl) | ((with_reducible show False); contradiction) | skip
  refine ⟨_, d5, ?_⟩
  rintro r s5 ⟨rfl, rfl⟩
  repeat' (first | apply And.intro | (intro q; exact absurd q (by decide)) | (intro q; exact absurd (by decide) q) | (intro q; exact absurd rfl q) | intro _)
  all_goals first | (exact trivial) | (with_reducible exact Nat.le_refl _) | decide | (exact (rfl : (0 : Nat) = 0)) | (exact Nat.le_of_ble_eq_true rfl) | ((with_reducible show False); contradiction) | skip
  refine ⟨_, d6, ?_⟩
  rintro r s6 ⟨rfl, rfl⟩
  repeat' (first | apply And.intro | (intro q; exact absurd q (by decide)) | (intro q; exact absurd (by decide) q) | (intro q; exact absurd rfl q) | intro _)
  all_goals first | (exact trivial) | (with_reducible exact Nat.le_refl _) | decide | (exact (rfl : (0 : Nat) = 0)) | (exact Nat.le_of_ble_eq_true rfl) | ((with_reducible show False); contradiction) | (exact nx _ (by decide))
end Mn1

