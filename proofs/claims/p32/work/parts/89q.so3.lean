/-! the law's isSo: who binds -/
section So3
variable {N : Nt} {X : Xt} {Z : Kt} {s : Sg} {t a b k : Nat} {fa mo : Nat → Nat} {T : Nat → Nat → Nat}
abbrev lSb (a b p o : Nat) (D bd x : Int32) : LC := lS a b ++ [(10, .inl 1), (11, .inl (nI p)), (12, .inl (nI o)), (13, .inl D), (14, .inl bd), (15, .inl x)]
set_option maxRecDepth 100000 in
set_option maxHeartbeats 4000000 in
theorem so_b {p o u : Nat} {D bd : Int32} (hu : u ≤ 440) (run : Rn tab_L_isSo 450 N X Z) (h : Rg t fa mo T (rows s) s) (hk : k < s.1 1) (nx : Z 442 u (lSb a b p o D (iteP (boC s k (nI p) D) (nI k) bd) (nI k + (-1))) [] s) : Z 442 u (lSb a b p o D bd (nI k)) [] s := by
  have hn := Rg_n h
  have h0 : ¬ nI k < 0 := nI_pos (by omega)
  have bo := bo_cl h hk (nI p) D
  have i1 : sp_L_isOf [aR 24 0, aI (nI k), aI (nI p)] s (fun r s' => s' = s ∧ ∃ y : Int32, r = some (aI y) ∧ Bv y (isOfL s k (nI p))) X := ⟨k, by omega, rfl, ⟨fun q => ⟨rfl, _, rfl, Bv_t q⟩, fun q => ⟨rfl, _, rfl, Bv_f q⟩⟩⟩
  have i2 : sp_L_binds [aR 24 0, aR 25 0, aI (nI k), aI D] s (fun r s' => s' = s ∧ ∃ y : Int32, r = some (aI y) ∧ Bv y (bindsL s k D)) X := ⟨k, by omega, rfl, ⟨fun q => ⟨rfl, _, rfl, Bv_t q⟩, fun q => ⟨rfl, _, rfl, Bv_f q⟩⟩⟩
  refine run.go [442] 60 ?_
  repeat' (first | apply And.intro | (intro q; exact absurd q (by decide)) | (intro q; exact absurd (by decide) q) | (intro q; exact absurd rfl q) | (intro q; exact absurd q h0) | (intro q; exact absurd h0 q) | intro _)
  all_goals first | (exact trivial) | (with_reducible exact Nat.le_refl _) | decide | (exact (rfl : (0 : Nat) = 0)) | (exact Nat.le_of_ble_eq_true rfl) | ((with_reducible show False); contradiction) | omega | skip
  refine ⟨_, i1, ?_⟩
  rintro r s1 ⟨rfl, y, rfl, hy⟩
  rcases hy with ⟨rfl, hy⟩ | ⟨rfl, hy⟩
  · repeat' (first | apply And.intro | (intro q; exact absurd q (by decide)) | (intro q; exact absurd (by decide) q) | (intro q; exact absurd rfl q) | intro _)
    all_goals first | (exact trivial) | (with_reducible exact Nat.le_refl _) | decide | (exact (rfl : (0 : Nat) = 0)) | (exact Nat.le_of_ble_eq_true rfl) | ((with_reducible show False); contradiction) | omega | skip
    refine ⟨_, i2, ?_⟩
    rintro r s2 ⟨rfl, y, rfl, hy2⟩
    rcases hy2 with ⟨rfl, hy2⟩ | ⟨rfl, hy2⟩
    · rw [iteP_t (bo.mp ⟨hy, hy2⟩)] at nx
      repeat' (first | apply And.intro | (intro q; exact absurd q (by decide)) | (intro q; exact absurd (by decide) q) | (intro q; exact absurd rfl q) | intro _)
      all_goals first | (exact trivial) | (with_reducible exact Nat.le_refl _) | decide | (exact (rfl : (0 : Nat) = 0)) | (exact Nat.le_of_ble_eq_true rfl) | ((with_reducible show False); contradiction) | omega | (exact nx)
    · rw [iteP_f (fun w => hy2 (bo.mpr w).2)] at nx
      repeat' (first | apply And.intro | (intro q; exact absurd q (by decide)) | (intro q; exact absurd (by decide) q) | (intro q; exact absurd rfl q) | intro _)
      all_goals first | (exact trivial) | (with_reducible exact Nat.le_refl _) | decide | (exact (rfl : (0 : Nat) = 0)) | (exact Nat.le_of_ble_eq_true rfl) | ((with_reducible show False); contradiction) | omega | (exact nx)
  · rw [iteP_f (fun w => hy (bo.mpr w).1)] at nx
    repeat' (first | apply And.intro | (intro q; exact absurd q (by decide)) | (intro q; exact absurd (by decide) q) | (intro q; exact absurd rfl q) | intro _)
    all_goals first | (exact trivial) | (with_reducible exact Nat.le_refl _) | decide | (exact (rfl : (0 : Nat) = 0)) | (exact Nat.le_of_ble_eq_true rfl) | ((with_reducible show False); contradiction) | omega | (exact nx)
/-- all of them, from the last down -/
theorem so_bs {p o u : Nat} {D : Int32} (hu : u ≤ 440) (run : Rn tab_L_isSo 450 N X Z) (h : Rg t fa mo T (rows s) s) (nx : Z 442 u (lSb a b p o D (lbC s (nI p) D (s.1 1) 0) (-1)) [] s) : ∀ m, m ≤ s.1 1 → Z 442 u (lSb a b p o D (lbC s (nI p) D (s.1 1 - m) m) (nI m - 1)) [] s
  | 0, _ => by
    rw [Nat.sub_zero, show nI 0 - 1 = (-1 : Int32) from by decide]
    exact nx
  | m + 1, hm => by
    have ih := so_bs hu run h nx m (by omega)
    rw [show s.1 1 - m = (s.1 1 - (m + 1)) + 1 by omega, lbC, ← nIm2] at ih
    rw [nI_pred]
    exact so_b hu run h (by omega) ih
end So3

