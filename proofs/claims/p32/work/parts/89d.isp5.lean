/-! the law's isPerson: a new person, all -/
section IsPs5
variable {N : Nt} {X : Xt} {Z : Kt} {s : Sg} {t a b : Nat} {fa mo : Nat → Nat} {T : Nat → Nat → Nat}
theorem fc_le {n f : Nat} (hn : n < 100) (hf : f < 100) : nI n ≤ nI f - 1 ↔ n < f := by
  cases f with
  | zero =>
    constructor
    · intro w
      exact absurd (Int32.le_iff_toInt_le.mp w) (by rw [nI_toInt (by omega)]; exact Int.not_le.mpr (by show (-1 : Int) < _; omega))
    · omega
  | succ f => rw [nI_pred, nI_leI (by omega) (by omega)]; omega
theorem fc_lt {f : Nat} (hf : f < 100) : nI f - 1 < 0 ↔ f = 0 := by
  cases f with
  | zero => exact ⟨fun _ => rfl, fun _ => by decide⟩
  | succ f => rw [nI_pred]; exact ⟨fun w => absurd w (nI_pos (by omega)), fun w => absurd w (by omega)⟩
theorem fc_eq {f m : Nat} (hf : f < 100) (hm : m < 100) : nI f - 1 = nI m - 1 ↔ f = m := by
  constructor
  · intro q
    cases f with
    | zero => exact ((m1_iff (by omega)).mp q.symm).symm
    | succ f =>
      cases m with
      | zero => exact (m1_iff (by omega)).mp q
      | succ m =>
        rw [nI_pred, nI_pred] at q
        rw [(nI_eq (by omega) (by omega)).mp q]
  · rintro rfl
    rfl
theorem lwP_e {n fc mc ho ag dy : Nat} (hn : s.2.1 30 0 1 = nI n) (hn2 : n < 100) (hd : s.2.1 30 0 0 = nI dy) : lwP s n fc mc ho ag dy =
    stS (stS (stS s 20 0 (s.2.1 30 0 1).toNatClampNeg (nI ho + 128 * (nI fc - 1 + 1) + 4096 * (nI mc - 1 + 1))) 21 0 ((stS s 20 0 (s.2.1 30 0 1).toNatClampNeg (nI ho + 128 * (nI fc - 1 + 1) + 4096 * (nI mc - 1 + 1))).2.1 30 0 1).toNatClampNeg ((stS s 20 0 (s.2.1 30 0 1).toNatClampNeg (nI ho + 128 * (nI fc - 1 + 1) + 4096 * (nI mc - 1 + 1))).2.1 30 0 0 - nI ag)) 30 0 1
      ((stS (stS s 20 0 (s.2.1 30 0 1).toNatClampNeg (nI ho + 128 * (nI fc - 1 + 1) + 4096 * (nI mc - 1 + 1))) 21 0 ((stS s 20 0 (s.2.1 30 0 1).toNatClampNeg (nI ho + 128 * (nI fc - 1 + 1) + 4096 * (nI mc - 1 + 1))).2.1 30 0 1).toNatClampNeg ((stS s 20 0 (s.2.1 30 0 1).toNatClampNeg (nI ho + 128 * (nI fc - 1 + 1) + 4096 * (nI mc - 1 + 1))).2.1 30 0 0 - nI ag)).2.1 30 0 1 + 1) := by
  have e1 : nI ho + 128 * (nI fc - 1 + 1) + 4096 * (nI mc - 1 + 1) = nI (pkP ho 0 0 0 fc mc) := by
    rw [Int32.sub_add_cancel, Int32.sub_add_cancel, show (128 : Int32) = nI 128 from rfl, show (4096 : Int32) = nI 4096 from rfl, nIm, nIm, nI_add, nI_add]
    rfl
  have e2 : (nI n).toNatClampNeg = n := nI_clamp (by omega)
  rw [e1, hn, e2]
  obtain ⟨w, hw⟩ : ∃ w, w = stS s 20 0 n (nI (pkP ho 0 0 0 fc mc)) := ⟨_, rfl⟩
  have w1 : w.2.1 30 0 1 = nI n := by rw [hw, stS_get, if_neg (by omega), hn]
  have w0 : w.2.1 30 0 0 = nI dy := by rw [hw, stS_get, if_neg (by omega), hd]
  unfold lwP
  rw [← hw, w1, w0, e2, stS_get, if_neg (by omega), w1, nIs]
abbrev lPn (a b ag fc mc ho : Nat) : LC := lP 0 a b ++ [(10, .inl (nI ag)), (11, .inl (nI fc - 1)), (12, .inl (nI mc - 1)), (13, .inl (nI ho))]
set_option maxRecDepth 100000 in
set_option maxHeartbeats 4000000 in
theorem isP_n180 {ag fc mc ho : Nat} {y z : Int32} (run : Rn tab_L_isPerson 20 N X Z) (ht : t < 64) (h : Rg t fa mo T (rows s) s) (hn16 : s.1 0 < 16) (hag : ag < 100000) (hf : fc < 100) (hm : mc < 100) (hho : ho < 100) (hy : Bv y (fc ≤ s.1 0 ∧ mc ≤ s.1 0)) (hz : Bv z ((fc = 0 ∨ ¬ fc = mc) ∧ ag < 36001 ∧ ho < 8))
    (hN : ∀ s2, Rl (t + 1) s2 → N (some (aI 1)) s2) : Z 180 0 (lPn a b ag fc mc ho ++ [(14, .inl y), (15, .inl z)]) [] s := by
  have hn := Rg_n h
  have b1 : Ib 1 4 := nIb (k := 1) (by decide) (by decide)
  have b0 : Ib 0 4 := nIb (k := 0) (by decide) (by decide)
  obtain ⟨dy, hdy, hd7, hd0⟩ := h.1.2.2.2.2.2
  have hd0' : s.2.1 30 0 0 = nI dy := hd0
  have g1 : s.2.1 30 0 1 = nI (s.1 0) := h.1.2.2.2.2.1.1
  have bn : Ib (s.2.1 30 0 1) 17 := by rw [g1]; exact nIb (by omega) (by decide)
  have bn2 : Ib (s.2.1 30 0 1) 33 := by rw [g1]; exact nIb (by omega) (by decide)
  rcases hy with ⟨rfl, hy⟩ | ⟨rfl, hy⟩
  · rcases hz with ⟨rfl, hz⟩ | ⟨rfl, hz⟩
    · have g := pers_0 (X := X) h hn16 hy.1 hy.2 hz.1 hz.2.1 hz.2.2 hd7 hdy ht
      rw [lwP_e g1 (by omega) hd0'] at g
      refine run.go [] 120 ?_
      repeat' (first | apply And.intro | (intro q; exact absurd q (by decide)) | (intro q; exact absurd (by decide) q) | (intro q; exact absurd rfl q) | intro _)
      all_goals first | (exact b1) | (exact b0) | (exact bn) | (exact bn2) | (exact trivial) | (with_reducible exact Nat.le_refl _) | decide | (exact (rfl : (0 : Nat) = 0)) | (exact Nat.le_of_ble_eq_true rfl) | ((with_reducible show False); contradiction) | skip
      refine ⟨_, g, ?_⟩
      rintro r s2 ⟨rfl, h2, h3⟩
      have e : nI (s.1 0) = s2.2.1 30 0 1 - 1 := by rw [h3, nI_pred]
      repeat' (first | apply And.intro | (intro q; exact absurd q (by decide)) | (intro q; exact absurd (by decide) q) | (intro q; exact absurd rfl q) | (intro q; exact absurd q e) | (intro q; exact absurd e q) | intro _)
      all_goals first | (exact b1) | (exact trivial) | (with_reducible exact Nat.le_refl _) | decide | (exact (rfl : (0 : Nat) = 0)) | (exact Nat.le_of_ble_eq_true rfl) | ((with_reducible show False); contradiction) | (exact hN s2 h2)
    · have g := pers_2 (X := X) (Rl_of h) hy.1 hy.2 hag hho hz
      refine run.go [] 120 ?_
      repeat' (first | apply And.intro | (intro q; exact absurd q (by decide)) | (intro q; exact absurd (by decide) q) | (intro q; exact absurd rfl q) | intro _)
      all_goals first | (exact b1) | (exact trivial) | (with_reducible exact Nat.le_refl _) | decide | (exact (rfl : (0 : Nat) = 0)) | (exact Nat.le_of_ble_eq_true rfl) | ((with_reducible show False); contradiction) | skip
      refine ⟨_, g, ?_⟩
      rintro r s2 ⟨rfl, h2⟩
      repeat' (first | apply And.intro | (intro q; exact absurd q (by decide)) | (intro q; exact absurd (by decide) q) | (intro q; exact absurd rfl q) | intro _)
      all_goals first | (exact trivial) | (with_reducible exact Nat.le_refl _) | decide | (exact (rfl : (0 : Nat) = 0)) | (exact Nat.le_of_ble_eq_true rfl) | ((with_reducible show False); contradiction) | (exact hN s2 (Rl_mono (by omega) h2))
  · have g := pers_1 (X := X) (ag := ag) (ho := ho) (Rl_of h) hf hm hy
    rcases hz with ⟨rfl, hz⟩ | ⟨rfl, hz⟩
    · refine run.go [] 120 ?_
      repeat' (first | apply And.intro | (intro q; exact absurd q (by decide)) | (intro q; exact absurd (by decide) q) | (intro q; exact absurd rfl q) | intro _)
      all_goals first | (exact b1) | (exact trivial) | (with_reducible exact Nat.le_refl _) | decide | (exact (rfl : (0 : Nat) = 0)) | (exact Nat.le_of_ble_eq_true rfl) | ((with_reducible show False); contradiction) | skip
      refine ⟨_, g, ?_⟩
      rintro r s2 ⟨rfl, h2⟩
      repeat' (first | apply And.intro | (intro q; exact absurd q (by decide)) | (intro q; exact absurd (by decide) q) | (intro q; exact absurd rfl q) | intro _)
      all_goals first | (exact trivial) | (with_reducible exact Nat.le_refl _) | decide | (exact (rfl : (0 : Nat) = 0)) | (exact Nat.le_of_ble_eq_true rfl) | ((with_reducible show False); contradiction) | (exact hN s2 (Rl_mono (by omega) h2))
    · refine run.go [] 120 ?_
      repeat' (first | apply And.intro | (intro q; exact absurd q (by decide)) | (intro q; exact absurd (by decide) q) | (intro q; exact absurd rfl q) | intro _)
      all_goals first | (exact b1) | (exact trivial) | (with_reducible exact Nat.le_refl _) | decide | (exact (rfl : (0 : Nat) = 0)) | (exact Nat.le_of_ble_eq_true rfl) | ((with_reducible show False); contradiction) | skip
      refine ⟨_, g, ?_⟩
      rintro r s2 ⟨rfl, h2⟩
      repeat' (first | apply And.intro | (intro q; exact absurd q (by decide)) | (intro q; exact absurd (by decide) q) | (intro q; exact absurd rfl q) | intro _)
      all_goals first | (exact trivial) | (with_reducible exact Nat.le_refl _) | decide | (exact (rfl : (0 : Nat) = 0)) | (exact Nat.le_of_ble_eq_true rfl) | ((with_reducible show False); contradiction) | (exact hN s2 (Rl_mono (by omega) h2))
set_option maxRecDepth 100000 in
set_option maxHeartbeats 4000000 in
theorem isP_n122 {ag fc mc ho : Nat} (run : Rn tab_L_isPerson 20 N X Z) (ht : t < 64) (h : Rg t fa mo T (rows s) s) (hn16 : s.1 0 < 16) (hag : ag < 100000) (hf : fc < 100) (hm : mc < 100) (hho : ho < 100)
    (hN : ∀ s2, Rl (t + 1) s2 → N (some (aI 1)) s2) : Z 122 0 (lPn a b ag fc mc ho) [] s := by
  have hn := Rg_n h
  have b1 : Ib 1 4 := nIb (k := 1) (by decide) (by decide)
  have g1 : s.2.1 30 0 1 = nI (s.1 0) := h.1.2.2.2.2.1.1
  have j := fun y z hy hz => isP_n180 (a := a) (b := b) (y := y) (z := z) run ht h hn16 hag hf hm hho hy hz hN
  have l1 : s.2.1 30 0 1 ≤ nI fc - 1 ↔ s.1 0 < fc := by rw [g1]; exact fc_le (by omega) hf
  have l2 : s.2.1 30 0 1 ≤ nI mc - 1 ↔ s.1 0 < mc := by rw [g1]; exact fc_le (by omega) hm
  have l3 := fc_lt hf
  have l4 := fc_eq hf hm
  have l5 : (36001 : Int32) ≤ nI ag ↔ 36001 ≤ ag := nI_leI (a := 36001) (by decide) (by omega)
  have l6 : (8 : Int32) ≤ nI ho ↔ 8 ≤ ho := nI_leI (a := 8) (by decide) (by omega)
  have j145 : ∀ y, Bv y (fc ≤ s.1 0 ∧ mc ≤ s.1 0) → Z 145 0 (lPn a b ag fc mc ho) [aI y] s := by
    intro y hy
    have j159 : (fc = 0 ∨ ¬ fc = mc) → Z 159 0 (lPn a b ag fc mc ho ++ [(14, .inl y)]) [] s := by
      intro c0
      by_cases c1 : 36001 ≤ ag
      · have e1 := l5.mpr c1
        have j := j y 0 hy (Bv_f (by omega))
        refine run.go [180] 40 ?_
        repeat' (first | apply And.intro | (intro q; exact absurd q (by decide)) | (intro q; exact absurd (by decide) q) | (intro q; exact absurd rfl q) | (intro q; exact absurd q e1) | (intro q; exact absurd e1 q) | intro _)
        all_goals first | (exact trivial) | (with_reducible exact Nat.le_refl _) | decide | (exact (rfl : (0 : Nat) = 0)) | (exact Nat.le_of_ble_eq_true rfl) | ((with_reducible show False); contradiction) | (exact j)
      · have e1 : ¬ _ := fun w => c1 (l5.mp w)
        by_cases c2 : 8 ≤ ho
        · have e2 := l6.mpr c2
          have j := j y 0 hy (Bv_f (by omega))
          refine run.go [180] 40 ?_
          repeat' (first | apply And.intro | (intro q; exact absurd q (by decide)) | (intro q; exact absurd (by decide) q) | (intro q; exact absurd rfl q) | (intro q; exact absurd q e1) | (intro q; exact absurd e1 q) | (intro q; exact absurd q e2) | (intro q; exact absurd e2 q) | intro _)
          all_goals first | (exact trivial) | (with_reducible exact Nat.le_refl _) | decide | (exact (rfl : (0 : Nat) = 0)) | (exact Nat.le_of_ble_eq_true rfl) | ((with_reducible show False); contradiction) | (exact j)
        · have e2 : ¬ _ := fun w => c2 (l6.mp w)
          have j := j y 1 hy (Bv_t (by omega))
          refine run.go [180] 40 ?_
          repeat' (first | apply And.intro | (intro q; exact absurd q (by decide)) | (intro q; exact absurd (by decide) q) | (intro q; exact absurd rfl q) | (intro q; exact absurd q e1) | (intro q; exact absurd e1 q) | (intro q; exact absurd q e2) | (intro q; exact absurd e2 q) | intro _)
          all_goals first | (exact trivial) | (with_reducible exact Nat.le_refl _) | decide | (exact (rfl : (0 : Nat) = 0)) | (exact Nat.le_of_ble_eq_true rfl) | ((with_reducible show False); contradiction) | (exact j)
    by_cases c1 : fc = 0
    · have e1 := l3.mpr c1
      have j := j159 (Or.inl c1)
      refine run.go [159] 40 ?_
      repeat' (first | apply And.intro | (intro q; exact absurd q (by decide)) | (intro q; exact absurd (by decide) q) | (intro q; exact absurd rfl q) | (intro q; exact absurd q e1) | (intro q; exact absurd e1 q) | intro _)
      all_goals first | (exact trivial) | (with_reducible exact Nat.le_refl _) | decide | (exact (rfl : (0 : Nat) = 0)) | (exact Nat.le_of_ble_eq_true rfl) | ((with_reducible show False); contradiction) | (exact j)
    · have e1 : ¬ _ := fun w => c1 (l3.mp w)
      by_cases c2 : fc = mc
      · have e2 := l4.mpr c2
        have j := j y 0 hy (Bv_f (by omega))
        refine run.go [180, 159] 40 ?_
        repeat' (first | apply And.intro | (intro q; exact absurd q (by decide)) | (intro q; exact absurd (by decide) q) | (intro q; exact absurd rfl q) | (intro q; exact absurd q e1) | (intro q; exact absurd e1 q) | (intro q; exact absurd q e2) | (intro q; exact absurd e2 q) | intro _)
        all_goals first | (exact trivial) | (with_reducible exact Nat.le_refl _) | decide | (exact (rfl : (0 : Nat) = 0)) | (exact Nat.le_of_ble_eq_true rfl) | ((with_reducible show False); contradiction) | (exact j)
      · have e2 : ¬ _ := fun w => c2 (l4.mp w)
        have j := j159 (Or.inr c2)
        refine run.go [159] 40 ?_
        repeat' (first | apply And.intro | (intro q; exact absurd q (by decide)) | (intro q; exact absurd (by decide) q) | (intro q; exact absurd rfl q) | (intro q; exact absurd q e1) | (intro q; exact absurd e1 q) | (intro q; exact absurd q e2) | (intro q; exact absurd e2 q) | intro _)
        all_goals first | (exact trivial) | (with_reducible exact Nat.le_refl _) | decide | (exact (rfl : (0 : Nat) = 0)) | (exact Nat.le_of_ble_eq_true rfl) | ((with_reducible show False); contradiction) | (exact j)
  by_cases c1 : s.1 0 < fc
  · have e1 := l1.mpr c1
    have j := j145 0 (Bv_f (by omega))
    refine run.go [145] 40 ?_
    repeat' (first | apply And.intro | (intro q; exact absurd q (by decide)) | (intro q; exact absurd (by decide) q) | (intro q; exact absurd rfl q) | (intro q; exact absurd q e1) | (intro q; exact absurd e1 q) | intro _)
    all_goals first | (exact b1) | (exact trivial) | (with_reducible exact Nat.le_refl _) | decide | (exact (rfl : (0 : Nat) = 0)) | (exact Nat.le_of_ble_eq_true rfl) | ((with_reducible show False); contradiction) | (exact j)
  · have e1 : ¬ _ := fun w => c1 (l1.mp w)
    by_cases c2 : s.1 0 < mc
    · have e2 := l2.mpr c2
      have j := j145 0 (Bv_f (by omega))
      refine run.go [145] 40 ?_
      repeat' (first | apply And.intro | (intro q; exact absurd q (by decide)) | (intro q; exact absurd (by decide) q) | (intro q; exact absurd rfl q) | (intro q; exact absurd q e1) | (intro q; exact absurd e1 q) | (intro q; exact absurd q e2) | (intro q; exact absurd e2 q) | intro _)
      all_goals first | (exact b1) | (exact trivial) | (with_reducible exact Nat.le_refl _) | decide | (exact (rfl : (0 : Nat) = 0)) | (exact Nat.le_of_ble_eq_true rfl) | ((with_reducible show False); contradiction) | (exact j)
    · have e2 : ¬ _ := fun w => c2 (l2.mp w)
      have j := j145 1 (Bv_t (by omega))
      refine run.go [145] 40 ?_
      repeat' (first | apply And.intro | (intro q; exact absurd q (by decide)) | (intro q; exact absurd (by decide) q) | (intro q; exact absurd rfl q) | (intro q; exact absurd q e1) | (intro q; exact absurd e1 q) | (intro q; exact absurd q e2) | (intro q; exact absurd e2 q) | intro _)
      all_goals first | (exact b1) | (exact trivial) | (with_reducible exact Nat.le_refl _) | decide | (exact (rfl : (0 : Nat) = 0)) | (exact Nat.le_of_ble_eq_true rfl) | ((with_reducible show False); contradiction) | (exact j)
set_option maxRecDepth 100000 in
set_option maxHeartbeats 4000000 in
theorem isP_new (run : Rn tab_L_isPerson 20 N X Z) (ht : t < 64) (h : Rg t fa mo T (rows s) s) (hn16 : s.1 0 < 16) (ha : a < 60000) (hb : b < 60000)
    (hN : ∀ s2, Rl (t + 1) s2 → N (some (aI 1)) s2) : Z 14 0 (lP 0 a b) [] s := by
  have hn := Rg_n h
  have b1 : Ib 1 4 := nIb (k := 1) (by decide) (by decide)
  have g1 : s.2.1 30 0 1 = nI (s.1 0) := h.1.2.2.2.2.1.1
  have nz : ¬ s.2.1 30 0 1 + 1 = 0 := by
    rw [g1, nIs]
    exact fun w => absurd ((n0 (by omega)).mp w) (by omega)
  have j120 : ∀ ag fc mc ho, ag < 100000 → fc < 100 → mc < 100 → ho < 100 → Z 120 0 (lP 0 a b ++ [(10, .inl (nI ag)), (11, .inl (nI fc - 1)), (12, .inl (nI mc - 1))]) [aI (nI ho)] s := by
    intro ag fc mc ho h1 h2 h3 h4
    have j := isP_n122 (a := a) (b := b) run ht h hn16 h1 h2 h3 h4 hN
    refine run.go [122] 40 ?_
    repeat' (first | apply And.intro | (intro q; exact absurd q (by decide)) | (intro q; exact absurd (by decide) q) | (intro q; exact absurd rfl q) | intro _)
    all_goals first | (exact trivial) | (with_reducible exact Nat.le_refl _) | decide | (exact (rfl : (0 : Nat) = 0)) | (exact Nat.le_of_ble_eq_true rfl) | ((with_reducible show False); contradiction) | (exact j)
  have j99 : ∀ ag fc mc, ag < 100000 → fc < 100 → mc < 100 → Z 99 0 (lP 0 a b ++ [(10, .inl (nI ag)), (11, .inl (nI fc - 1))]) [aI (nI mc - 1)] s := by
    intro ag fc mc h1 h2 h3
    have e3 : irm (nI a) 3 = nI (a % 3) := irmN (d := 3) (by omega) (by decide) (by decide)
    have e9 : irm (nI a) 9 = nI (a % 9) := irmN (d := 9) (by omega) (by decide) (by decide)
    have k1 := j120 ag fc mc 8 h1 h2 h3 (by decide)
    have k2 := j120 ag fc mc (a % 3) h1 h2 h3 (by omega)
    rw [← e3] at k2
    rw [show nI 8 = (8 : Int32) from by decide] at k1
    refine run.go [120] 40 ?_
    repeat' (first | apply And.intro | (intro q; exact absurd q (by decide)) | (intro q; exact absurd (by decide) q) | (intro q; exact absurd rfl q) | intro _)
    all_goals first | (exact trivial) | (with_reducible exact Nat.le_refl _) | decide | (exact (rfl : (0 : Nat) = 0)) | (exact Nat.le_of_ble_eq_true rfl) | ((with_reducible show False); contradiction) | (exact k1) | (exact k2)
  have j70 : ∀ ag fc, ag < 100000 → fc < 100 → Z 70 0 (lP 0 a b ++ [(10, .inl (nI ag))]) [aI (nI fc - 1)] s := by
    intro ag fc h1 h2
    have e : irm (nI a / 180) (s.2.1 30 0 (Int32.toNatClampNeg 1) + 1) = nI (a / 180 % (s.1 0 + 1) + 1) - 1 := by
      rw [nI_pred, show Int32.toNatClampNeg 1 = 1 from rfl, g1, nIs, show nI a / 180 = nI (a / 180) from divN (d := 180) (by omega) (by decide) (by decide), irmN (by omega) (by omega) (by omega)]
    have m := Nat.mod_lt (a / 180) (show 0 < s.1 0 + 1 by omega)
    have k1 := j99 ag fc 0 h1 h2 (by decide)
    have k2 := j99 ag fc (a / 180 % (s.1 0 + 1) + 1) h1 h2 (by omega)
    rw [← e] at k2
    rw [show nI 0 - 1 = (-1 : Int32) from by decide] at k1
    refine run.go [99] 40 ?_
    repeat' (first | apply And.intro | (intro q; exact absurd q (by decide)) | (intro q; exact absurd (by decide) q) | (intro q; exact absurd rfl q) | intro _)
    all_goals first | (exact b1) | (exact nz) | (exact trivial) | (with_reducible exact Nat.le_refl _) | decide | (exact (rfl : (0 : Nat) = 0)) | (exact Nat.le_of_ble_eq_true rfl) | ((with_reducible show False); contradiction) | (exact k1) | (exact k2)
  have j46 : ∀ ag, ag < 100000 → Z 46 0 (lP 0 a b) [aI (nI ag)] s := by
    intro ag h1
    have e : irm (nI a / 3) (s.2.1 30 0 (Int32.toNatClampNeg 1) + 1) = nI (a / 3 % (s.1 0 + 1) + 1) - 1 := by
      rw [nI_pred, show Int32.toNatClampNeg 1 = 1 from rfl, g1, nIs, show nI a / 3 = nI (a / 3) from divN (d := 3) (by omega) (by decide) (by decide), irmN (by omega) (by omega) (by omega)]
    have m := Nat.mod_lt (a / 3) (show 0 < s.1 0 + 1 by omega)
    have k1 := j70 ag 0 h1 (by decide)
    have k2 := j70 ag (a / 3 % (s.1 0 + 1) + 1) h1 (by omega)
    rw [← e] at k2
    rw [show nI 0 - 1 = (-1 : Int32) from by decide] at k1
    refine run.go [70] 40 ?_
    repeat' (first | apply And.intro | (intro q; exact absurd q (by decide)) | (intro q; exact absurd (by decide) q) | (intro q; exact absurd rfl q) | intro _)
    all_goals first | (exact b1) | (exact nz) | (exact trivial) | (with_reducible exact Nat.le_refl _) | decide | (exact (rfl : (0 : Nat) = 0)) | (exact Nat.le_of_ble_eq_true rfl) | ((with_reducible show False); contradiction) | (exact k1) | (exact k2)
  have e1 : irm (nI b / 9 * 6) 36002 = nI (b / 9 * 6 % 36002) := by
    rw [show nI b / 9 = nI (b / 9) from divN (d := 9) (by omega) (by decide) (by decide), show nI (b / 9) * 6 = nI (b / 9 * 6) from nIm _ 6]
    exact irmN (d := 36002) (by omega) (by decide) (by decide)
  have e2 : 4900 + irm (nI b) 1800 = nI (4900 + b % 1800) := by
    rw [show irm (nI b) 1800 = nI (b % 1800) from irmN (d := 1800) (by omega) (by decide) (by decide)]
    exact nI_add 4900 _
  have k1 := j46 (b / 9 * 6 % 36002) (by omega)
  have k2 := j46 (4900 + b % 1800) (by omega)
  rw [← e1] at k1
  rw [← e2] at k2
  refine run.go [46] 40 ?_
  repeat' (first | apply And.intro | (intro q; exact absurd q (by decide)) | (intro q; exact absurd (by decide) q) | (intro q; exact absurd rfl q) | intro _)
  all_goals first | (exact trivial) | (with_reducible exact Nat.le_refl _) | decide | (exact (rfl : (0 : Nat) = 0)) | (exact Nat.le_of_ble_eq_true rfl) | ((with_reducible show False); contradiction) | (exact k1) | (exact k2)
end IsPs5
set_option maxRecDepth 20000 in
set_option maxHeartbeats 2000000 in
theorem M_L_isPerson : GMet yL_isPerson cL_isPerson 18 (some .boolean) 13 20 sp_L_isPerson := by
  refine GMet.rn (own := RL) (by decide) rfl [0, 1, 2, 3, 4, 5, 6, 7, 8, 9, 10, 11, 12, 13, 14, 15, 16, 17] rfl tok_L_isPerson ?_
  intro av s0 N X h Z run
  unfold sp_L_isPerson at h
  split at h
  rotate_left
  · exact h.elim
  rename_i what one two
  obtain ⟨t, w, a, b, ht, hw, ha, hb, rfl, rfl, rfl, hR, hN⟩ := h
  have hn := Rl_n hR
  have b1 : Ib 1 4 := nIb (k := 1) (by decide) (by decide)
  obtain ⟨fa, mo, T, h⟩ := id hR
  have g1 : s0.2.1 30 0 1 = nI (s0.1 0) := h.1.2.2.2.2.1.1
  have nz : ¬ s0.2.1 30 0 1 + 1 = 0 := by
    rw [g1, nIs]
    exact fun w => absurd ((n0 (by omega)).mp w) (by omega)
  obtain ⟨p, hp⟩ : ∃ p, p = a % (s0.1 0 + 1) := ⟨_, rfl⟩
  have hp2 : p ≤ s0.1 0 := by have := Nat.mod_lt a (show 0 < s0.1 0 + 1 by omega); omega
  have ep : irm (nI a) (s0.2.1 30 0 (Int32.toNatClampNeg 1) + 1) = nI p := by rw [show Int32.toNatClampNeg 1 = 1 from rfl, g1, nIs, irmN (by omega) (by omega) (by omega), hp]
  have j324 : ∀ x, Bv x (p < s0.1 0) → Z 324 0 (lPp w a b p x) [] s0 := by
    intro x hx
    by_cases w2 : w < 2
    · by_cases be : b % 2 = 0
      · exact isP_rite run ht hR w2 hb be hp2 hx hN
      · exact isP_home run ht hR w2 hb (by omega) hp2 hx hN
    · have hge : (2 : Int32) ≤ nI w := Int32.not_lt.mp (nI_nlt (b := 2) (by omega) (by omega))
      have j505 : Z 505 0 (lPp w a b p x) [] s0 := by
        have hw4 : w = 2 ∨ w = 3 ∨ w = 4 ∨ w = 5 := by omega
        rcases hw4 with rfl | rfl | rfl | rfl
        · exact isP_order run ht hR hp2 hx hN
        · have j := isP_ban (a := a) (b := b) run ht hR hp2 hx hN
          refine run.go [606] 40 ?_
          repeat' (first | apply And.intro | (intro q; exact absurd q (by decide)) | (intro q; exact absurd (by decide) q) | (intro q; exact absurd rfl q) | intro _)
          all_goals first | (exact trivial) | (with_reducible exact Nat.le_refl _) | decide | (exact (rfl : (0 : Nat) = 0)) | (exact Nat.le_of_ble_eq_true rfl) | ((with_reducible show False); contradiction) | (exact j)
        · have j := isP_die (a := a) (b := b) run ht hR hp2 hx hN
          refine run.go [695] 40 ?_
          repeat' (first | apply And.intro | (intro q; exact absurd q (by decide)) | (intro q; exact absurd (by decide) q) | (intro q; exact absurd rfl q) | intro _)
          all_goals first | (exact trivial) | (with_reducible exact Nat.le_refl _) | decide | (exact (rfl : (0 : Nat) = 0)) | (exact Nat.le_of_ble_eq_true rfl) | ((with_reducible show False); contradiction) | (exact j)
        · have j := isP_disp (a := a) (b := b) run ht hR hb hp2 hx hN
          refine run.go [852] 40 ?_
          repeat' (first | apply And.intro | (intro q; exact absurd q (by decide)) | (intro q; exact absurd (by decide) q) | (intro q; exact absurd rfl q) | intro _)
          all_goals first | (exact trivial) | (with_reducible exact Nat.le_refl _) | decide | (exact (rfl : (0 : Nat) = 0)) | (exact Nat.le_of_ble_eq_true rfl) | ((with_reducible show False); contradiction) | (exact j)
      refine run.go [505] 40 ?_
      repeat' (first | apply And.intro | (intro q; exact absurd q (by decide)) | (intro q; exact absurd (by decide) q) | (intro q; exact absurd rfl q) | (intro q; exact absurd q hge) | (intro q; exact absurd hge q) | intro _)
      all_goals first | (exact trivial) | (with_reducible exact Nat.le_refl _) | decide | (exact (rfl : (0 : Nat) = 0)) | (exact Nat.le_of_ble_eq_true rfl) | ((with_reducible show False); contradiction) | (exact j505)
  have j297 : Z 297 0 (lP w a b) [] s0 := by
    have j308 : Z 308 0 (lP w a b ++ [(10, .inl (nI p))]) [] s0 := by
      by_cases c : p < s0.1 0
      · have h1 : ¬ s0.2.1 30 0 1 ≤ nI p := by rw [g1]; exact nI_ge c (by omega)
        have j := j324 1 (Bv_t c)
        refine run.go [324] 40 ?_
        repeat' (first | apply And.intro | (intro q; exact absurd q (by decide)) | (intro q; exact absurd (by decide) q) | (intro q; exact absurd rfl q) | (intro q; exact absurd q h1) | (intro q; exact absurd h1 q) | intro _)
        all_goals first | (exact b1) | (exact trivial) | (with_reducible exact Nat.le_refl _) | decide | (exact (rfl : (0 : Nat) = 0)) | (exact Nat.le_of_ble_eq_true rfl) | ((with_reducible show False); contradiction) | (exact j)
      · have h1 : s0.2.1 30 0 1 ≤ nI p := by rw [g1]; exact nI_le (by omega) (by omega)
        have j := j324 0 (Bv_f c)
        refine run.go [324] 40 ?_
        repeat' (first | apply And.intro | (intro q; exact absurd q (by decide)) | (intro q; exact absurd (by decide) q) | (intro q; exact absurd rfl q) | (intro q; exact absurd q h1) | (intro q; exact absurd h1 q) | intro _)
        all_goals first | (exact b1) | (exact trivial) | (with_reducible exact Nat.le_refl _) | decide | (exact (rfl : (0 : Nat) = 0)) | (exact Nat.le_of_ble_eq_true rfl) | ((with_reducible show False); contradiction) | (exact j)
    rw [← ep] at j308
    refine run.go [308] 40 ?_
    repeat' (first | apply And.intro | (intro q; exact absurd q (by decide)) | (intro q; exact absurd (by decide) q) | (intro q; exact absurd rfl q) | intro _)
    all_goals first | (exact b1) | (exact nz) | (exact trivial) | (with_reducible exact Nat.le_refl _) | decide | (exact (rfl : (0 : Nat) = 0)) | (exact Nat.le_of_ble_eq_true rfl) | ((with_reducible show False); contradiction) | (exact j308)
  by_cases w0 : w = 0
  · subst w0
    by_cases c : s0.1 0 < 16
    · have h1 : ¬ (16 : Int32) ≤ s0.2.1 30 0 1 := by rw [g1]; exact nI_ge (b := 16) c (by decide)
      have j := isP_new run ht h c ha hb hN
      refine run.go [14] 40 ?_
      repeat' (first | apply And.intro | (intro q; exact absurd q (by decide)) | (intro q; exact absurd (by decide) q) | (intro q; exact absurd rfl q) | (intro q; exact absurd q h1) | (intro q; exact absurd h1 q) | intro _)
      all_goals first | (exact b1) | (exact trivial) | (with_reducible exact Nat.le_refl _) | decide | (exact (rfl : (0 : Nat) = 0)) | (exact Nat.le_of_ble_eq_true rfl) | ((with_reducible show False); contradiction) | (exact j)
    · have h1 : (16 : Int32) ≤ s0.2.1 30 0 1 := by rw [g1]; exact Int32.not_lt.mp (nI_nlt (b := 16) (by omega) (by omega))
      refine run.go [297] 40 ?_
      repeat' (first | apply And.intro | (intro q; exact absurd q (by decide)) | (intro q; exact absurd (by decide) q) | (intro q; exact absurd rfl q) | (intro q; exact absurd q h1) | (intro q; exact absurd h1 q) | intro _)
      all_goals first | (exact b1) | (exact trivial) | (with_reducible exact Nat.le_refl _) | decide | (exact (rfl : (0 : Nat) = 0)) | (exact Nat.le_of_ble_eq_true rfl) | ((with_reducible show False); contradiction) | (exact j297)
  · have h1 : ¬ nI w = 0 := fun z => w0 ((n0 (by omega)).mp z)
    refine run.go [297] 40 ?_
    repeat' (first | apply And.intro | (intro q; exact absurd q (by decide)) | (intro q; exact absurd (by decide) q) | (intro q; exact absurd rfl q) | (intro q; exact absurd q h1) | (intro q; exact absurd h1 q) | intro _)
    all_goals first | (exact b1) | (exact trivial) | (with_reducible exact Nat.le_refl _) | decide | (exact (rfl : (0 : Nat) = 0)) | (exact Nat.le_of_ble_eq_true rfl) | ((with_reducible show False); contradiction) | (exact j297)

