/-! the law's isVow: a new vow's front, all -/
section IsVs4
variable {N : Nt} {X : Xt} {Z : Kt} {s : Sg} {t a b v : Nat} {fa mo : Nat → Nat} {T : Nat → Nat → Nat}
set_option maxRecDepth 100000 in
set_option maxHeartbeats 4000000 in
theorem isV_n353 {p o pl wc : Nat} {y z : Int32} (run : Rn tab_L_isVow 20 N X Z) (ht : t < 64) (h : Rg t fa mo T (rows s) s) (hn16 : s.1 1 < 16) (hp : p ≤ s.1 0) (ho : o ≤ s.1 0) (hpl : pl < 9) (hwc : wc < 3) (hy : Bv y (p < s.1 0 ∧ o < s.1 0)) (hz : Bv z (¬ p = o ∧ pl < 8 ∧ 0 < wc))
    (hN : ∀ s2, Rl (t + 1) s2 → N (some (aI 1)) s2) : Z 353 0 (lVn a b p o pl wc ++ [(16, .inl y), (17, .inl z)]) [] s := by
  have hn := Rg_n h
  have hR := Rl_of h
  have bp : Ib (nI p) 17 := nIb (by omega) (by decide)
  have bo : Ib (nI o) 17 := nIb (by omega) (by decide)
  have cp : (nI p).toNatClampNeg = p := nI_clamp (by omega)
  have co : (nI o).toNatClampNeg = o := nI_clamp (by omega)
  rcases hy with ⟨rfl, hy⟩ | ⟨rfl, hy⟩
  · rcases hz with ⟨rfl, hz⟩ | ⟨rfl, hz⟩
    · obtain ⟨wt, rfl⟩ : ∃ wt, wc = wt + 1 := ⟨wc - 1, by omega⟩
      obtain ⟨ho1, ri, od, ba, li, hP⟩ := Rg_p h hy.1
      obtain ⟨ho2, ri2, od2, ba2, li2, hQ⟩ := Rg_p h hy.2
      obtain ⟨q1, q2⟩ := Rg_fm h hy.1
      obtain ⟨q3, q4⟩ := Rg_fm h hy.2
      have hb1 := hP.1
      have hb2 := hQ.1
      have ew : nI (wt + 1) - 1 = nI wt := nI_pred wt
      have r1 : irm (s.2.1 20 0 (nI p).toNatClampNeg / 32) 4 = 0 ↔ (li = 1 ∧ ba = 0) := by
        rw [cp, pR_bd (Pp_pR hP (by omega) (by omega)), n0 (by omega)]
        omega
      have r2 : irm (s.2.1 20 0 (nI o).toNatClampNeg / 32) 4 = 0 ↔ (li2 = 1 ∧ ba2 = 0) := by
        rw [co, pR_bd (Pp_pR hQ (by omega) (by omega)), n0 (by omega)]
        omega
      have bad : ¬ ((li = 1 ∧ ba = 0) ∧ li2 = 1 ∧ ba2 = 0) → Z 394 0 (lVn a b p o pl (wt + 1) ++ [(16, .inl 1), (17, .inl 1), (18, .inl 0)]) [] s := by
        intro hc
        have g := vow_3 (X := X) h hy.1 hy.2 hz.1 hz.2.1 (show wt < 6 by omega) hP hQ hc
        rw [← ew] at g
        refine run.go [] 60 ?_
        repeat' (first | apply And.intro | (intro q; exact absurd q (by decide)) | (intro q; exact absurd (by decide) q) | (intro q; exact absurd rfl q) | intro _)
        all_goals first | (exact trivial) | (with_reducible exact Nat.le_refl _) | decide | (exact (rfl : (0 : Nat) = 0)) | (exact Nat.le_of_ble_eq_true rfl) | ((with_reducible show False); contradiction) | skip
        refine ⟨_, g, ?_⟩
        rintro r s2 ⟨rfl, h2⟩
        repeat' (first | apply And.intro | (intro q; exact absurd q (by decide)) | (intro q; exact absurd (by decide) q) | (intro q; exact absurd rfl q) | intro _)
        all_goals first | (exact trivial) | (with_reducible exact Nat.le_refl _) | decide | (exact (rfl : (0 : Nat) = 0)) | (exact Nat.le_of_ble_eq_true rfl) | ((with_reducible show False); contradiction) | (exact hN s2 (Rl_mono (by omega) h2))
      by_cases c1 : li = 1 ∧ ba = 0
      · have e1 := r1.mpr c1
        by_cases c2 : li2 = 1 ∧ ba2 = 0
        · have e2 := r2.mpr c2
          have j := isV_n394 (a := a) (b := b) run ht h hn16 hy.1 hy.2 hz.1 hz.2.1 (show wt < 2 by omega) hP hQ ⟨c1, c2⟩ hN
          refine run.go [394] 60 ?_
          repeat' (first | apply And.intro | (intro q; exact absurd q (by decide)) | (intro q; exact absurd (by decide) q) | (intro q; exact absurd rfl q) | (intro q; exact absurd q e1) | (intro q; exact absurd e1 q) | (intro q; exact absurd q e2) | (intro q; exact absurd e2 q) | intro _)
          all_goals first | (exact bp) | (exact bo) | (exact trivial) | (with_reducible exact Nat.le_refl _) | decide | (exact (rfl : (0 : Nat) = 0)) | (exact Nat.le_of_ble_eq_true rfl) | ((with_reducible show False); contradiction) | (exact j)
        · have e2 : ¬ _ := fun w => c2 (r2.mp w)
          have j := bad (fun w => c2 w.2)
          refine run.go [394] 60 ?_
          repeat' (first | apply And.intro | (intro q; exact absurd q (by decide)) | (intro q; exact absurd (by decide) q) | (intro q; exact absurd rfl q) | (intro q; exact absurd q e1) | (intro q; exact absurd e1 q) | (intro q; exact absurd q e2) | (intro q; exact absurd e2 q) | intro _)
          all_goals first | (exact bp) | (exact bo) | (exact trivial) | (with_reducible exact Nat.le_refl _) | decide | (exact (rfl : (0 : Nat) = 0)) | (exact Nat.le_of_ble_eq_true rfl) | ((with_reducible show False); contradiction) | (exact j)
      · have e1 : ¬ _ := fun w => c1 (r1.mp w)
        have j := bad (fun w => c1 w.1)
        refine run.go [394] 60 ?_
        repeat' (first | apply And.intro | (intro q; exact absurd q (by decide)) | (intro q; exact absurd (by decide) q) | (intro q; exact absurd rfl q) | (intro q; exact absurd q e1) | (intro q; exact absurd e1 q) | intro _)
        all_goals first | (exact bp) | (exact bo) | (exact trivial) | (with_reducible exact Nat.le_refl _) | decide | (exact (rfl : (0 : Nat) = 0)) | (exact Nat.le_of_ble_eq_true rfl) | ((with_reducible show False); contradiction) | (exact j)
    · have g := vow_2f (X := X) (w := nI wc - 1) hR hy.1 hy.2 (a := pl) (by omega) (by
        rintro ⟨w1, w2, w3⟩
        refine hz ⟨w1, w2, ?_⟩
        have : ¬ wc = 0 := by
          rintro rfl
          exact absurd w3.1 (by decide)
        omega)
      refine run.go [] 60 ?_
      repeat' (first | apply And.intro | (intro q; exact absurd q (by decide)) | (intro q; exact absurd (by decide) q) | (intro q; exact absurd rfl q) | intro _)
      all_goals first | (exact trivial) | (with_reducible exact Nat.le_refl _) | decide | (exact (rfl : (0 : Nat) = 0)) | (exact Nat.le_of_ble_eq_true rfl) | ((with_reducible show False); contradiction) | skip
      refine ⟨_, g, ?_⟩
      rintro r s2 ⟨rfl, h2⟩
      repeat' (first | apply And.intro | (intro q; exact absurd q (by decide)) | (intro q; exact absurd (by decide) q) | (intro q; exact absurd rfl q) | intro _)
      all_goals first | (exact trivial) | (with_reducible exact Nat.le_refl _) | decide | (exact (rfl : (0 : Nat) = 0)) | (exact Nat.le_of_ble_eq_true rfl) | ((with_reducible show False); contradiction) | (exact hN s2 (Rl_mono (by omega) h2))
  · have g := vow_1 (X := X) (a := nI pl) (w := nI wc - 1) hR (p := p) (q := o) (by omega) (by omega) hy
    refine run.go [] 60 ?_
    repeat' (first | apply And.intro | (intro q; exact absurd q (by decide)) | (intro q; exact absurd (by decide) q) | (intro q; exact absurd rfl q) | intro _)
    all_goals first | (exact trivial) | (with_reducible exact Nat.le_refl _) | decide | (exact (rfl : (0 : Nat) = 0)) | (exact Nat.le_of_ble_eq_true rfl) | ((with_reducible show False); contradiction) | skip
    refine ⟨_, g, ?_⟩
    rintro r s2 ⟨rfl, h2⟩
    repeat' (first | apply And.intro | (intro q; exact absurd q (by decide)) | (intro q; exact absurd (by decide) q) | (intro q; exact absurd rfl q) | intro _)
    all_goals first | (exact trivial) | (with_reducible exact Nat.le_refl _) | decide | (exact (rfl : (0 : Nat) = 0)) | (exact Nat.le_of_ble_eq_true rfl) | ((with_reducible show False); contradiction) | (exact hN s2 (Rl_mono (by omega) h2))
set_option maxRecDepth 100000 in
set_option maxHeartbeats 4000000 in
theorem isV_n244 (run : Rn tab_L_isVow 20 N X Z) (ht : t < 64) (h : Rg t fa mo T (rows s) s) (hn16 : s.1 1 < 16) (ha : a < 60000) (hb : b < 60000)
    (hN : ∀ s2, Rl (t + 1) s2 → N (some (aI 1)) s2) : Z 244 0 (lV 2 a b) [] s := by
  have hn := Rg_n h
  have b1 : Ib 1 4 := nIb (k := 1) (by decide) (by decide)
  have g1 : s.2.1 30 0 1 = nI (s.1 0) := h.1.2.2.2.2.1.1
  have nz : ¬ s.2.1 30 0 1 + 1 = 0 := by
    rw [g1, nIs]
    exact fun w => absurd ((n0 (by omega)).mp w) (by omega)
  obtain ⟨p, hp⟩ : ∃ p, p = a % (s.1 0 + 1) := ⟨_, rfl⟩
  obtain ⟨o, ho⟩ : ∃ o, o = b % (s.1 0 + 1) := ⟨_, rfl⟩
  obtain ⟨pl, hpl⟩ : ∃ pl, pl = a / 17 % 9 := ⟨_, rfl⟩
  have hp2 : p ≤ s.1 0 := by have := Nat.mod_lt a (show 0 < s.1 0 + 1 by omega); omega
  have ho2 : o ≤ s.1 0 := by have := Nat.mod_lt b (show 0 < s.1 0 + 1 by omega); omega
  have ep : irm (nI a) (s.2.1 30 0 (Int32.toNatClampNeg 1) + 1) = nI p := by rw [show Int32.toNatClampNeg 1 = 1 from rfl, g1, nIs, irmN (by omega) (by omega) (by omega), hp]
  have eo : irm (nI b) (s.2.1 30 0 (Int32.toNatClampNeg 1) + 1) = nI o := by rw [show Int32.toNatClampNeg 1 = 1 from rfl, g1, nIs, irmN (by omega) (by omega) (by omega), ho]
  have el : irm (nI a / 17) 9 = nI pl := by
    rw [show nI a / 17 = nI (a / 17) from divN (d := 17) (by omega) (by decide) (by decide), hpl]
    exact irmN (d := 9) (by omega) (by decide) (by decide)
  have l1 : s.2.1 30 0 1 ≤ nI p ↔ s.1 0 ≤ p := by rw [g1]; exact nI_leI (by omega) (by omega)
  have l2 : s.2.1 30 0 1 ≤ nI o ↔ s.1 0 ≤ o := by rw [g1]; exact nI_leI (by omega) (by omega)
  have l3 : (8 : Int32) ≤ nI pl ↔ 8 ≤ pl := nI_leI (a := 8) (by decide) (by omega)
  have l4 : nI p = nI o ↔ p = o := nI_eq (by omega) (by omega)
  have j300 : ∀ wc, wc < 3 → Z 300 0 (lV 2 a b ++ [(12, .inl (nI p)), (13, .inl (nI o)), (14, .inl (nI pl))]) [aI (nI wc - 1)] s := by
    intro wc hwc
    have l5 : nI wc - 1 < 0 ↔ wc = 0 := fc_lt (by omega)
    have j := fun y z hy hz => isV_n353 (a := a) (b := b) (y := y) (z := z) (pl := pl) (wc := wc) run ht h hn16 hp2 ho2 (by omega) hwc hy hz hN
    have j325 : ∀ y, Bv y (p < s.1 0 ∧ o < s.1 0) → Z 325 0 (lVn a b p o pl wc) [aI y] s := by
      intro y hy
      by_cases c1 : p = o
      · have e1 := l4.mpr c1
        have j := j y 0 hy (Bv_f fun w => w.1 c1)
        refine run.go [353] 60 ?_
        repeat' (first | apply And.intro | (intro q; exact absurd q (by decide)) | (intro q; exact absurd (by decide) q) | (intro q; exact absurd rfl q) | (intro q; exact absurd q e1) | (intro q; exact absurd e1 q) | intro _)
        all_goals first | (exact trivial) | (with_reducible exact Nat.le_refl _) | decide | (exact (rfl : (0 : Nat) = 0)) | (exact Nat.le_of_ble_eq_true rfl) | ((with_reducible show False); contradiction) | (exact j)
      · have e1 : ¬ _ := fun w => c1 (l4.mp w)
        by_cases c2 : 8 ≤ pl
        · have e2 := l3.mpr c2
          have j := j y 0 hy (Bv_f fun w => by omega)
          refine run.go [353] 60 ?_
          repeat' (first | apply And.intro | (intro q; exact absurd q (by decide)) | (intro q; exact absurd (by decide) q) | (intro q; exact absurd rfl q) | (intro q; exact absurd q e1) | (intro q; exact absurd e1 q) | (intro q; exact absurd q e2) | (intro q; exact absurd e2 q) | intro _)
          all_goals first | (exact trivial) | (with_reducible exact Nat.le_refl _) | decide | (exact (rfl : (0 : Nat) = 0)) | (exact Nat.le_of_ble_eq_true rfl) | ((with_reducible show False); contradiction) | (exact j)
        · have e2 : ¬ _ := fun w => c2 (l3.mp w)
          by_cases c3 : wc = 0
          · have e3 := l5.mpr c3
            have j := j y 0 hy (Bv_f fun w => by omega)
            refine run.go [353] 60 ?_
            repeat' (first | apply And.intro | (intro q; exact absurd q (by decide)) | (intro q; exact absurd (by decide) q) | (intro q; exact absurd rfl q) | (intro q; exact absurd q e1) | (intro q; exact absurd e1 q) | (intro q; exact absurd q e2) | (intro q; exact absurd e2 q) | (intro q; exact absurd q e3) | (intro q; exact absurd e3 q) | intro _)
            all_goals first | (exact trivial) | (with_reducible exact Nat.le_refl _) | decide | (exact (rfl : (0 : Nat) = 0)) | (exact Nat.le_of_ble_eq_true rfl) | ((with_reducible show False); contradiction) | (exact j)
          · have e3 : ¬ _ := fun w => c3 (l5.mp w)
            have j := j y 1 hy (Bv_t ⟨c1, by omega, by omega⟩)
            refine run.go [353] 60 ?_
            repeat' (first | apply And.intro | (intro q; exact absurd q (by decide)) | (intro q; exact absurd (by decide) q) | (intro q; exact absurd rfl q) | (intro q; exact absurd q e1) | (intro q; exact absurd e1 q) | (intro q; exact absurd q e2) | (intro q; exact absurd e2 q) | (intro q; exact absurd q e3) | (intro q; exact absurd e3 q) | intro _)
            all_goals first | (exact trivial) | (with_reducible exact Nat.le_refl _) | decide | (exact (rfl : (0 : Nat) = 0)) | (exact Nat.le_of_ble_eq_true rfl) | ((with_reducible show False); contradiction) | (exact j)
    by_cases c1 : s.1 0 ≤ p
    · have e1 := l1.mpr c1
      have j := j325 0 (Bv_f fun w => by omega)
      refine run.go [325] 60 ?_
      repeat' (first | apply And.intro | (intro q; exact absurd q (by decide)) | (intro q; exact absurd (by decide) q) | (intro q; exact absurd rfl q) | (intro q; exact absurd q e1) | (intro q; exact absurd e1 q) | intro _)
      all_goals first | (exact b1) | (exact trivial) | (with_reducible exact Nat.le_refl _) | decide | (exact (rfl : (0 : Nat) = 0)) | (exact Nat.le_of_ble_eq_true rfl) | ((with_reducible show False); contradiction) | (exact j)
    · have e1 : ¬ _ := fun w => c1 (l1.mp w)
      by_cases c2 : s.1 0 ≤ o
      · have e2 := l2.mpr c2
        have j := j325 0 (Bv_f fun w => by omega)
        refine run.go [325] 60 ?_
        repeat' (first | apply And.intro | (intro q; exact absurd q (by decide)) | (intro q; exact absurd (by decide) q) | (intro q; exact absurd rfl q) | (intro q; exact absurd q e1) | (intro q; exact absurd e1 q) | (intro q; exact absurd q e2) | (intro q; exact absurd e2 q) | intro _)
        all_goals first | (exact b1) | (exact trivial) | (with_reducible exact Nat.le_refl _) | decide | (exact (rfl : (0 : Nat) = 0)) | (exact Nat.le_of_ble_eq_true rfl) | ((with_reducible show False); contradiction) | (exact j)
      · have e2 : ¬ _ := fun w => c2 (l2.mp w)
        have j := j325 1 (Bv_t ⟨by omega, by omega⟩)
        refine run.go [325] 60 ?_
        repeat' (first | apply And.intro | (intro q; exact absurd q (by decide)) | (intro q; exact absurd (by decide) q) | (intro q; exact absurd rfl q) | (intro q; exact absurd q e1) | (intro q; exact absurd e1 q) | (intro q; exact absurd q e2) | (intro q; exact absurd e2 q) | intro _)
        all_goals first | (exact b1) | (exact trivial) | (with_reducible exact Nat.le_refl _) | decide | (exact (rfl : (0 : Nat) = 0)) | (exact Nat.le_of_ble_eq_true rfl) | ((with_reducible show False); contradiction) | (exact j)
  have k1 := j300 0 (by decide)
  have k2 := j300 (b / 17 % 2 + 1) (by omega)
  have ew : irm (nI b / 17) 2 = nI (b / 17 % 2 + 1) - 1 := by
    rw [nI_pred, show nI b / 17 = nI (b / 17) from divN (d := 17) (by omega) (by decide) (by decide)]
    exact irmN (d := 2) (by omega) (by decide) (by decide)
  rw [show nI 0 - 1 = (-1 : Int32) from by decide, ← ep, ← eo, ← el] at k1
  rw [← ew, ← ep, ← eo, ← el] at k2
  refine run.go [300] 90 ?_
  repeat' (first | apply And.intro | (intro q; exact absurd q (by decide)) | (intro q; exact absurd (by decide) q) | (intro q; exact absurd rfl q) | intro _)
  all_goals first | (exact b1) | (exact nz) | (exact trivial) | (with_reducible exact Nat.le_refl _) | decide | (exact (rfl : (0 : Nat) = 0)) | (exact Nat.le_of_ble_eq_true rfl) | ((with_reducible show False); contradiction) | (exact k1) | (exact k2)
end IsVs4
set_option maxRecDepth 20000 in
set_option maxHeartbeats 2000000 in
theorem M_L_isVow : GMet yL_isVow cL_isVow 23 (some .boolean) 13 20 sp_L_isVow := by
  refine GMet.rn (own := RL) (by decide) rfl [0, 1, 2, 3, 4, 5, 6, 7, 8, 9, 10, 11, 12, 13, 14, 15, 16, 17, 18, 19, 20, 21, 22] rfl tok_L_isVow ?_
  intro av s0 N X h Z run
  unfold sp_L_isVow at h
  split at h
  rotate_left
  · exact h.elim
  rename_i what one two
  obtain ⟨t, w, a, b, ht, hw, ha, hb, rfl, rfl, rfl, hR, hN⟩ := h
  have hn := Rl_n hR
  have b2 : Ib 2 4 := nIb (k := 2) (by decide) (by decide)
  obtain ⟨fa, mo, T, h⟩ := id hR
  have g2 : s0.2.1 30 0 2 = nI (s0.1 1) := h.1.2.2.2.2.1.2.1
  have hw6 : w = 0 ∨ w = 1 ∨ w = 2 ∨ w = 3 ∨ w = 4 ∨ w = 5 := by omega
  rcases hw6 with rfl | rfl | rfl | rfl | rfl | rfl
  · exact isV_fac run h ha hb hN
  · have j := isV_err (b := b) run h ha hN
    refine run.go [153] 60 ?_
    repeat' (first | apply And.intro | (intro q; exact absurd q (by decide)) | (intro q; exact absurd (by decide) q) | (intro q; exact absurd rfl q) | intro _)
    all_goals first | (exact trivial) | (with_reducible exact Nat.le_refl _) | decide | (exact (rfl : (0 : Nat) = 0)) | (exact Nat.le_of_ble_eq_true rfl) | ((with_reducible show False); contradiction) | (exact j)
  · by_cases c : s0.1 1 < 16
    · have h1 : ¬ (16 : Int32) ≤ s0.2.1 30 0 2 := by rw [g2]; exact nI_ge (b := 16) c (by decide)
      have j := isV_n244 run ht h c ha hb hN
      refine run.go [244] 60 ?_
      repeat' (first | apply And.intro | (intro q; exact absurd q (by decide)) | (intro q; exact absurd (by decide) q) | (intro q; exact absurd rfl q) | (intro q; exact absurd q h1) | (intro q; exact absurd h1 q) | intro _)
      all_goals first | (exact b2) | (exact trivial) | (with_reducible exact Nat.le_refl _) | decide | (exact (rfl : (0 : Nat) = 0)) | (exact Nat.le_of_ble_eq_true rfl) | ((with_reducible show False); contradiction) | (exact j)
    · have h1 : (16 : Int32) ≤ s0.2.1 30 0 2 := by rw [g2]; exact Int32.not_lt.mp (nI_nlt (b := 16) (by omega) (by omega))
      have j := isV_670 (b := b) run h (Or.inl rfl) ha hN
      refine run.go [670] 60 ?_
      repeat' (first | apply And.intro | (intro q; exact absurd q (by decide)) | (intro q; exact absurd (by decide) q) | (intro q; exact absurd rfl q) | (intro q; exact absurd q h1) | (intro q; exact absurd h1 q) | intro _)
      all_goals first | (exact b2) | (exact trivial) | (with_reducible exact Nat.le_refl _) | decide | (exact (rfl : (0 : Nat) = 0)) | (exact Nat.le_of_ble_eq_true rfl) | ((with_reducible show False); contradiction) | (exact j)
  · have j := isV_670 (b := b) run h (Or.inr (Or.inl rfl)) ha hN
    refine run.go [670] 60 ?_
    repeat' (first | apply And.intro | (intro q; exact absurd q (by decide)) | (intro q; exact absurd (by decide) q) | (intro q; exact absurd rfl q) | intro _)
    all_goals first | (exact trivial) | (with_reducible exact Nat.le_refl _) | decide | (exact (rfl : (0 : Nat) = 0)) | (exact Nat.le_of_ble_eq_true rfl) | ((with_reducible show False); contradiction) | (exact j)
  · have j := isV_670 (b := b) run h (Or.inr (Or.inr (Or.inl rfl))) ha hN
    refine run.go [670] 60 ?_
    repeat' (first | apply And.intro | (intro q; exact absurd q (by decide)) | (intro q; exact absurd (by decide) q) | (intro q; exact absurd rfl q) | intro _)
    all_goals first | (exact trivial) | (with_reducible exact Nat.le_refl _) | decide | (exact (rfl : (0 : Nat) = 0)) | (exact Nat.le_of_ble_eq_true rfl) | ((with_reducible show False); contradiction) | (exact j)
  · have j := isV_670 (b := b) run h (Or.inr (Or.inr (Or.inr rfl))) ha hN
    refine run.go [670] 60 ?_
    repeat' (first | apply And.intro | (intro q; exact absurd q (by decide)) | (intro q; exact absurd (by decide) q) | (intro q; exact absurd rfl q) | intro _)
    all_goals first | (exact trivial) | (with_reducible exact Nat.le_refl _) | decide | (exact (rfl : (0 : Nat) = 0)) | (exact Nat.le_of_ble_eq_true rfl) | ((with_reducible show False); contradiction) | (exact j)

