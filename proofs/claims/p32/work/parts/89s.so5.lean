/-! the law's isSo: its end -/
section So5
variable {N : Nt} {X : Xt} {Z : Kt} {s : Sg} {t a b k : Nat} {fa mo : Nat → Nat} {T : Nat → Nat → Nat}
set_option maxRecDepth 100000 in
set_option maxHeartbeats 4000000 in
theorem so_end {u : Nat} (run : Rn tab_L_isSo 450 N X Z) (h : Rg t fa mo T (rows s) s) (hu : u ≤ 418) (hN : N (some (aI 1)) s) : Z 746 u (lS a b ++ [(10, .inl 1)]) [] s := by
  have hn := Rg_n h
  have b2 : Ib 2 4 := nIb (k := 2) (by decide) (by decide)
  have b3 : Ib 3 4 := nIb (k := 3) (by decide) (by decide)
  have g2 : s.2.1 30 0 2 = nI (s.1 1) := h.1.2.2.2.2.1.2.1
  have g3 : s.2.1 30 0 3 = nI (s.1 2) := h.1.2.2.2.2.1.2.2
  have d1 : sp_L_does [aR 1 0, aI 21, aI (s.2.1 30 0 2), aI 0, aI 0, aI 0] s (fun v s2 => s2 = s ∧ v = some (aI (-3000000))) X := by
    rw [g2]
    exact do_21 ⟨Rg_CI h, fun _ => ⟨rfl, rfl⟩, fun z => absurd ((iC_N (by omega) (by omega)).mp z) (Nat.lt_irrefl _)⟩
  have d2 : sp_L_does [aR 1 0, aI 22, aI (s.2.1 30 0 3), aI 0, aI 0, aI 0] s (fun v s2 => s2 = s ∧ v = some (aI (-3000000))) X := by
    rw [g3]
    exact do_22 ⟨Rg_CI h, fun _ => ⟨rfl, rfl⟩, fun z => absurd ((iC_N (by omega) (by omega)).mp z) (Nat.lt_irrefl _)⟩
  refine run.go [] 60 ?_
  repeat' (first | apply And.intro | (intro q; exact absurd q (by decide)) | (intro q; exact absurd (by decide) q) | (intro q; exact absurd rfl q) | intro _)
  all_goals first | (exact b2) | (exact b3) | (exact trivial) | (with_reducible exact Nat.le_refl _) | decide | (exact (rfl : (0 : Nat) = 0)) | (exact Nat.le_of_ble_eq_true rfl) | ((with_reducible show False); contradiction) | omega | skip
  refine ⟨_, d1, ?_⟩
  rintro r s1 ⟨rfl, rfl⟩
  repeat' (first | apply And.intro | (intro q; exact absurd q (by decide)) | (intro q; exact absurd (by decide) q) | (intro q; exact absurd rfl q) | intro _)
  all_goals first | (exact b2) | (exact b3) | (exact trivial) | (with_reducible exact Nat.le_refl _) | decide | (exact (rfl : (0 : Nat) = 0)) | (exact Nat.le_of_ble_eq_true rfl) | ((with_reducible show False); contradiction) | omega | skip
  refine ⟨_, d2, ?_⟩
  rintro r s2 ⟨rfl, rfl⟩
  repeat' (first | apply And.intro | (intro q; exact absurd q (by decide)) | (intro q; exact absurd (by decide) q) | (intro q; exact absurd rfl q) | intro _)
  all_goals first | (exact trivial) | (with_reducible exact Nat.le_refl _) | decide | (exact (rfl : (0 : Nat) = 0)) | (exact Nat.le_of_ble_eq_true rfl) | ((with_reducible show False); contradiction) | omega | (exact hN)
end So5

