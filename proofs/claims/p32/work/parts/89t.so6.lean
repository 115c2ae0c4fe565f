/-! the law's isSo: its head -/
section So6
variable {N : Nt} {X : Xt} {Z : Kt} {s : Sg} {t a b k : Nat} {fa mo : Nat → Nat} {T : Nat → Nat → Nat}
set_option maxRecDepth 100000 in
set_option maxHeartbeats 4000000 in
theorem so_head (run : Rn tab_L_isSo 450 N X Z) (h : Rg t fa mo T (rows s) s) (ha : a < 60000) (j372 : ∀ u, u ≤ 288 → Z 372 u (lS a b ++ [(10, .inl 1)]) [] s) : Z 0 0 (lS a b) [] s := by
  have hn := Rg_n h
  have b2 : Ib 2 4 := nIb (k := 2) (by decide) (by decide)
  have b3 : Ib 3 4 := nIb (k := 3) (by decide) (by decide)
  have g2 : s.2.1 30 0 2 = nI (s.1 1) := h.1.2.2.2.2.1.2.1
  have g3 : s.2.1 30 0 3 = nI (s.1 2) := h.1.2.2.2.2.1.2.2
  have lc := loop_up (n := s.1 2) (P := fun k => ∀ u, u ≤ 176 + 14 * k → Z 154 u (lS a b ++ [(10, .inl 1), (11, .inl (nI k))]) [] s) (by
    intro u hu
    have hle : s.2.1 30 0 3 ≤ nI (s.1 2) := by rw [g3]; exact nI_le (Nat.le_refl _) (by omega)
    have j := j372 u (by omega)
    refine run.go [372] 40 ?_
    repeat' (first | apply And.intro | (intro q; exact absurd q (by decide)) | (intro q; exact absurd (by decide) q) | (intro q; exact absurd rfl q) | (intro q; exact absurd q hle) | (intro q; exact absurd hle q) | intro _)
    all_goals first | (exact b3) | (exact trivial) | (with_reducible exact Nat.le_refl _) | decide | (exact (rfl : (0 : Nat) = 0)) | (exact Nat.le_of_ble_eq_true rfl) | ((with_reducible show False); contradiction) | (exact run.take 11 j)) (by
    intro k hk ih u hu
    obtain ⟨vw, db, st, ins, qa, qb, qd, ex, ey, ez, hp⟩ := Rg_c h hk
    exact so_c run h hk hu hp ih) 0 (Nat.zero_le _)
  have lv := loop_up (n := s.1 1) (P := fun k => ∀ u, u ≤ 11 * k → Z 6 u (lS a b ++ [(10, .inl 1), (11, .inl (nI k))]) [] s) (by
    intro u hu
    have hle : s.2.1 30 0 2 ≤ nI (s.1 1) := by rw [g2]; exact nI_le (Nat.le_refl _) (by omega)
    have j := lc u (by omega)
    rw [show nI 0 = (0 : Int32) from rfl] at j
    refine run.go [154] 40 ?_
    repeat' (first | apply And.intro | (intro q; exact absurd q (by decide)) | (intro q; exact absurd (by decide) q) | (intro q; exact absurd rfl q) | (intro q; exact absurd q hle) | (intro q; exact absurd hle q) | intro _)
    all_goals first | (exact b2) | (exact trivial) | (with_reducible exact Nat.le_refl _) | decide | (exact (rfl : (0 : Nat) = 0)) | (exact Nat.le_of_ble_eq_true rfl) | ((with_reducible show False); contradiction) | (exact j)) (by
    intro k hk ih u hu
    exact so_v run h hk hu ha ih) 0 (Nat.zero_le _)
  have j := lv 0 (by omega)
  rw [show nI 0 = (0 : Int32) from rfl] at j
  refine run.go [6] 40 ?_
  repeat' (first | apply And.intro | (intro q; exact absurd q (by decide)) | (intro q; exact absurd (by decide) q) | (intro q; exact absurd rfl q) | intro _)
  all_goals first | (exact trivial) | (with_reducible exact Nat.le_refl _) | decide | (exact (rfl : (0 : Nat) = 0)) | (exact Nat.le_of_ble_eq_true rfl) | ((with_reducible show False); contradiction) | (exact j)
end So6

