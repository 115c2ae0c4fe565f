/-! the law's isSo: vows -/
def sp_L_isSo : Spc := fun av s N _ => match av with
  | [.inl (.inr (1, 0)), .inl (.inr (20, 0)), .inl (.inr (24, 0)), .inl (.inr (25, 0)), .inl (.inr (26, 0)), .inl (.inr (28, 0)), .inl (.inr (29, 0)), .inl (.inr (30, 0)), .inl (.inl one), .inl (.inl two)] =>
    ∃ t a b : Nat, t ≤ 64 ∧ a < 60000 ∧ b < 60000 ∧ one = nI a ∧ two = nI b ∧ Rl t s ∧ N (some (aI 1)) s
  | _ => False
abbrev lS (a b : Nat) : LC := [(0, .inr (1, 0)), (1, .inr (20, 0)), (2, .inr (24, 0)), (3, .inr (25, 0)), (4, .inr (26, 0)), (5, .inr (28, 0)), (6, .inr (29, 0)), (7, .inr (30, 0)), (8, .inl (nI a)), (9, .inl (nI b))]
section So1
variable {N : Nt} {X : Xt} {Z : Kt} {s : Sg} {t a b k : Nat} {fa mo : Nat → Nat} {T : Nat → Nat → Nat}
theorem vo_cl {one oth pl lk st la : Nat} (h : Rg t fa mo T (rows s) s) (hk : k < s.1 1) (hV : Vp s k one oth pl lk st la) : sp_X4_vowOf [aR 1 0, aI (nI k), aI 0] s (fun r s' => s' = s ∧ r = some (aI (nI st))) X ∧ sp_X4_vowOf [aR 1 0, aI (nI k), aI 1] s (fun r s' => s' = s ∧ r = some (aI (s.2.1 25 0 k))) X ∧ sp_X4_vowOf [aR 1 0, aI (nI k), aI 2] s (fun r s' => s' = s ∧ r = some (aI (s.2.1 25 0 (16 + k)))) X ∧
    sp_X4_vowOf [aR 1 0, aI (nI k), aI 3] s (fun r s' => s' = s ∧ r = some (aI (nI lk))) X ∧ sp_X4_vowOf [aR 1 0, aI (nI k), aI 4] s (fun r s' => s' = s ∧ r = some (aI (nI pl))) X := by
  have hn := Rg_n h
  have hb := hV.1
  have i1 : iC s 1 (nI k) := (iC_N (by omega) (by omega)).mpr hk
  have ck : cl (nI k) = k := clN (by omega)
  obtain ⟨q1, q2, q3, q4, q5, q6⟩ := hV.2.1
  have w : ∀ (j x : Int32), (0 ≤ j ∧ j < 5) → vw5 s k j (fun r s' => s' = s ∧ r = some (aI x)) → sp_X4_vowOf [aR 1 0, aI (nI k), aI j] s (fun r s' => s' = s ∧ r = some (aI x)) X := fun j x hj hv =>
    ⟨Rg_CI h, fun q => absurd i1 q, fun _ => ⟨fun q => absurd hj q, fun _ => by rw [ck]; exact hv⟩⟩
  refine ⟨w _ _ (by decide) ?_, w _ _ (by decide) ?_, w _ _ (by decide) ?_, w _ _ (by decide) ?_, w _ _ (by decide) ?_⟩
  · exact ⟨fun _ => ⟨rfl, by rw [q5]⟩, fun z => absurd z (by decide), fun z => absurd z (by decide), fun z => absurd z (by decide), fun z => absurd z (by decide), fun z => absurd rfl z⟩
  · exact ⟨fun z => absurd z (by decide), fun _ => ⟨rfl, by rw [hV.2.2.2.1]⟩, fun z => absurd z (by decide), fun z => absurd z (by decide), fun z => absurd z (by decide), fun _ z => absurd rfl z⟩
  · exact ⟨fun z => absurd z (by decide), fun z => absurd z (by decide), fun _ => ⟨rfl, by rw [hV.2.2.2.2.1]⟩, fun z => absurd z (by decide), fun z => absurd z (by decide), fun _ _ z => absurd rfl z⟩
  · refine ⟨fun z => absurd z (by decide), fun z => absurd z (by decide), fun z => absurd z (by decide), fun _ z => ⟨rfl, ?_⟩, fun _ z => ⟨rfl, ?_⟩, fun _ _ _ z => absurd rfl z⟩
    · rw [q4, n0 (by omega)] at z
      rw [show lk = 1 by omega]; rfl
    · rw [q4, n0 (by omega)] at z
      rw [z]; rfl
  · exact ⟨fun z => absurd z (by decide), fun z => absurd z (by decide), fun z => absurd z (by decide), fun z => absurd z (by decide), fun z => absurd z (by decide), fun _ _ _ _ => ⟨rfl, by rw [q3]⟩⟩
set_option maxRecDepth 100000 in
set_option maxHeartbeats 4000000 in
theorem so_v {u : Nat} (run : Rn tab_L_isSo 450 N X Z) (h : Rg t fa mo T (rows s) s) (hk : k < s.1 1) (hu : u ≤ 11 * k) (ha : a < 60000) (nx : ∀ u, u ≤ 11 * (k + 1) → Z 6 u (lS a b ++ [(10, .inl 1), (11, .inl (nI (k + 1)))]) [] s) : Z 6 u (lS a b ++ [(10, .inl 1), (11, .inl (nI k))]) [] s := by
  have hn := Rg_n h
  have b2 : Ib 2 4 := nIb (k := 2) (by decide) (by decide)
  have g2 : s.2.1 30 0 2 = nI (s.1 1) := h.1.2.2.2.2.1.2.1
  have hle : ¬ s.2.1 30 0 2 ≤ nI k := by rw [g2]; exact nI_ge hk (by omega)
  have ck : (nI k).toNatClampNeg = k := nI_clamp (by omega)
  have e16 : (16 : Int32) + nI k = nI (16 + k) := nI_add 16 k
  have c16 : ((16 : Int32) + nI k).toNatClampNeg = 16 + k := by rw [e16]; exact nI_clamp (by omega)
  have bk : Ib (nI k) 17 := nIb (by omega) (by decide)
  have bk2 : Ib (nI k) 32 := nIb (by omega) (by decide)
  have bk3 : Ib ((16 : Int32) + nI k) 32 := by rw [e16]; exact nIb (by omega) (by decide)
  obtain ⟨one, oth, pl, lk, st, la, hV⟩ := Rg_v h hk
  have hvr := Vp_vR hn.1 hV
  obtain ⟨v0, v1, v2, v3, v4⟩ := vo_cl (X := X) h hk hV
  have e0 : nI st = irm (s.2.1 24 0 (nI k).toNatClampNeg / 4096) 4 := by rw [ck]; exact (vR_st hvr).symm
  have e1 : s.2.1 25 0 k = s.2.1 25 0 (nI k).toNatClampNeg := by rw [ck]
  have e2 : s.2.1 25 0 (16 + k) = s.2.1 25 0 ((16 : Int32) + nI k).toNatClampNeg := by rw [c16]
  have e3 : nI lk = irm (s.2.1 24 0 (nI k).toNatClampNeg / 2048) 2 := by rw [ck]; exact (vR_lk hvr).symm
  have e4 : nI pl = irm (s.2.1 24 0 (nI k).toNatClampNeg / 256) 8 := by rw [ck]; exact (vR_pl hvr).symm
  have e5 : hnC s k = hnL s k := (hn_cl h hk).symm
  have v5 : sp_X4_hindered [aR 1 0, aI (nI k)] s (fun r s' => s' = s ∧ r = some (aI (hnC s k))) X := ⟨Rg_CI h, fun q => absurd ((iC_N (by omega) (by omega)).mpr hk) q, fun _ => by rw [clN (by omega)]; exact ⟨rfl, rfl⟩⟩
  have v6 : sp_L_hindered [aR 24 0, aR 25 0, aI (nI k)] s (fun r s' => s' = s ∧ r = some (aI (hnL s k))) X := ⟨k, by omega, rfl, rfl, rfl⟩
  simp only [← nIs] at nx
  refine run.go [6] 160 ?_
  repeat' (first | apply And.intro | (intro q; exact absurd q (by decide)) | (intro q; exact absurd (by decide) q) | (intro q; exact absurd rfl q) | (intro q; exact absurd q hle) | (intro q; exact absurd hle q) | intro _)
  all_goals first | (exact b2) | (exact bk) | (exact bk2) | (exact bk3) | (exact trivial) | (with_reducible exact Nat.le_refl _) | decide | (exact (rfl : (0 : Nat) = 0)) | (exact Nat.le_of_ble_eq_true rfl) | ((with_reducible show False); contradiction) | omega | skip
  refine ⟨_, v0, ?_⟩
  rintro r s0 ⟨rfl, rfl⟩
  repeat' (first | apply And.intro | (intro q; exact absurd q (by decide)) | (intro q; exact absurd (by decide) q) | (intro q; exact absurd rfl q) | (intro q; exact absurd q e0) | (intro q; exact absurd e0 q) | intro _)
  all_goals first | (exact b2) | (exact bk) | (exact bk2) | (exact bk3) | (exact trivial) | (with_reducible exact Nat.le_refl _) | decide | (exact (rfl : (0 : Nat) = 0)) | (exact Nat.le_of_ble_eq_true rfl) | ((with_reducible show False); contradiction) | omega | skip
  refine ⟨_, v1, ?_⟩
  rintro r s1 ⟨rfl, rfl⟩
  repeat' (first | apply And.intro | (intro q; exact absurd q (by decide)) | (intro q; exact absurd (by decide) q) | (intro q; exact absurd rfl q) | (intro q; exact absurd q e1) | (intro q; exact absurd e1 q) | intro _)
  all_goals first | (exact b2) | (exact bk) | (exact bk2) | (exact bk3) | (exact trivial) | (with_reducible exact Nat.le_refl _) | decide | (exact (rfl : (0 : Nat) = 0)) | (exact Nat.le_of_ble_eq_true rfl) | ((with_reducible show False); contradiction) | omega | skip
  refine ⟨_, v2, ?_⟩
  rintro r s2 ⟨rfl, rfl⟩
  repeat' (first | apply And.intro | (intro q; exact absurd q (by decide)) | (intro q; exact absurd (by decide) q) | (intro q; exact absurd rfl q) | (intro q; exact absurd q e2) | (intro q; exact absurd e2 q) | intro _)
  all_goals first | (exact b2) | (exact bk) | (exact bk2) | (exact bk3) | (exact trivial) | (with_reducible exact Nat.le_refl _) | decide | (exact (rfl : (0 : Nat) = 0)) | (exact Nat.le_of_ble_eq_true rfl) | ((with_reducible show False); contradiction) | omega | skip
  refine ⟨_, v3, ?_⟩
  rintro r s3 ⟨rfl, rfl⟩
  repeat' (first | apply And.intro | (intro q; exact absurd q (by decide)) | (intro q; exact absurd (by decide) q) | (intro q; exact absurd rfl q) | (intro q; exact absurd q e3) | (intro q; exact absurd e3 q) | intro _)
  all_goals first | (exact b2) | (exact bk) | (exact bk2) | (exact bk3) | (exact trivial) | (with_reducible exact Nat.le_refl _) | decide | (exact (rfl : (0 : Nat) = 0)) | (exact Nat.le_of_ble_eq_true rfl) | ((with_reducible show False); contradiction) | omega | skip
  refine ⟨_, v4, ?_⟩
  rintro r s4 ⟨rfl, rfl⟩
  repeat' (first | apply And.intro | (intro q; exact absurd q (by decide)) | (intro q; exact absurd (by decide) q) | (intro q; exact absurd rfl q) | (intro q; exact absurd q e4) | (intro q; exact absurd e4 q) | intro _)
  all_goals first | (exact b2) | (exact bk) | (exact bk2) | (exact bk3) | (exact trivial) | (with_reducible exact Nat.le_refl _) | decide | (exact (rfl : (0 : Nat) = 0)) | (exact Nat.le_of_ble_eq_true rfl) | ((with_reducible show False); contradiction) | omega | (exact nx _ (by omega)) | skip
  refine ⟨_, v5, ?_⟩
  rintro r s5 ⟨rfl, rfl⟩
  repeat' (first | apply And.intro | (intro q; exact absurd q (by decide)) | (intro q; exact absurd (by decide) q) | (intro q; exact absurd rfl q) | intro _)
  all_goals first | (exact trivial) | (with_reducible exact Nat.le_refl _) | decide | (exact (rfl : (0 : Nat) = 0)) | (exact Nat.le_of_ble_eq_true rfl) | ((with_reducible show False); contradiction) | omega | skip
  refine ⟨_, v6, ?_⟩
  rintro r s6 ⟨rfl, rfl⟩
  repeat' (first | apply And.intro | (intro q; exact absurd q (by decide)) | (intro q; exact absurd (by decide) q) | (intro q; exact absurd rfl q) | (intro q; exact absurd q e5) | (intro q; exact absurd e5 q) | intro _)
  all_goals first | (exact trivial) | (with_reducible exact Nat.le_refl _) | decide | (exact (rfl : (0 : Nat) = 0)) | (exact Nat.le_of_ble_eq_true rfl) | ((with_reducible show False); contradiction) | omega | (exact nx _ (by omega))
end So1

