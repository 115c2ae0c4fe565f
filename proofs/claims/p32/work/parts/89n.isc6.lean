/-! the law's isCause: all -/
section IsCs6
variable {N : Nt} {X : Xt} {Z : Kt} {s : Sg} {t a b k : Nat} {fa mo : Nat → Nat} {T : Nat → Nat → Nat}
set_option maxRecDepth 100000 in
set_option maxHeartbeats 4000000 in
theorem isC_n79 {v pl db : Nat} {bl : Int32} (run : Rn tab_L_isCause 20 N X Z) (h : Rg t fa mo T (rows s) s) (hn8 : s.1 2 < 8) (hv : v ≤ s.1 1) (hpl : pl < 9) (hdb : db < 129) (hbl : bl = 0 ∨ bl = 1)
    (hN : ∀ s2, Rl (t + 1) s2 → N (some (aI 1)) s2) : Z 79 0 (lCn a b v pl db bl) [] s := by
  have hn := Rg_n h
  have b2 : Ib 2 4 := nIb (k := 2) (by decide) (by decide)
  have cv : (nI v).toNatClampNeg = v := nI_clamp (by omega)
  have bv : Ib (nI v) 17 := nIb (by omega) (by decide)
  have g2 : s.2.1 30 0 2 = nI (s.1 1) := h.1.2.2.2.2.1.2.1
  have l1 : (8 : Int32) ≤ nI pl ↔ 8 ≤ pl := nI_leI (a := 8) (by decide) (by omega)
  have l2 : nI db ≤ 0 ↔ db = 0 := by
    rw [show nI db ≤ 0 ↔ db ≤ 0 from nI_leI (b := 0) (by omega) (by decide)]
    omega
  have l3 : (128 : Int32) ≤ nI db ↔ 128 ≤ db := nI_leI (a := 128) (by decide) (by omega)
  by_cases c : v < s.1 1
  · have h1 : ¬ s.2.1 30 0 2 ≤ nI v := by rw [g2]; exact nI_ge c (by omega)
    obtain ⟨one, oth, plv, lk, st, la, hV⟩ := Rg_v h c
    have hvr := Vp_vR hn.1 hV
    have e1 : irm (s.2.1 24 0 (nI v).toNatClampNeg) 16 = nI one := by rw [cv]; exact vR_one hvr
    have e2 : irm (s.2.1 24 0 (nI v).toNatClampNeg / 16) 16 = nI oth := by rw [cv]; exact vR_oth hvr
    have j120 : ∀ z, Bv z (pl < 8 ∧ 0 < db ∧ db < 128) → Z 120 0 (lCn a b v pl db bl ++ [(16, .inl 1)]) [aI z] s := by
      intro z hz
      have j : Z 161 0 (lCn a b v pl db bl ++ [(16, .inl 1), (17, .inl z), (18, .inl (nI one)), (19, .inl (nI oth))]) [] s := isC_n161 (a := a) (b := b) run h hn8 c hV hpl hdb hbl hz hN
      rw [← e1, ← e2] at j
      refine run.go [161] 60 ?_
      repeat' (first | apply And.intro | (intro q; exact absurd q (by decide)) | (intro q; exact absurd (by decide) q) | (intro q; exact absurd rfl q) | intro _)
      all_goals first | (exact bv) | (exact trivial) | (with_reducible exact Nat.le_refl _) | decide | (exact (rfl : (0 : Nat) = 0)) | (exact Nat.le_of_ble_eq_true rfl) | ((with_reducible show False); contradiction) | (exact j)
    by_cases c1 : 8 ≤ pl
    · have f1 := l1.mpr c1
      have j := j120 0 (Bv_f (by omega))
      refine run.go [120] 60 ?_
      repeat' (first | apply And.intro | (intro q; exact absurd q (by decide)) | (intro q; exact absurd (by decide) q) | (intro q; exact absurd rfl q) | (intro q; exact absurd q h1) | (intro q; exact absurd h1 q) | (intro q; exact absurd q f1) | (intro q; exact absurd f1 q) | intro _)
      all_goals first | (exact b2) | (exact trivial) | (with_reducible exact Nat.le_refl _) | decide | (exact (rfl : (0 : Nat) = 0)) | (exact Nat.le_of_ble_eq_true rfl) | ((with_reducible show False); contradiction) | (exact j)
    · have f1 : ¬ _ := fun w => c1 (l1.mp w)
      by_cases c2 : db = 0
      · have f2 := l2.mpr c2
        have j := j120 0 (Bv_f (by omega))
        refine run.go [120] 60 ?_
        repeat' (first | apply And.intro | (intro q; exact absurd q (by decide)) | (intro q; exact absurd (by decide) q) | (intro q; exact absurd rfl q) | (intro q; exact absurd q h1) | (intro q; exact absurd h1 q) | (intro q; exact absurd q f1) | (intro q; exact absurd f1 q) | (intro q; exact absurd q f2) | (intro q; exact absurd f2 q) | intro _)
        all_goals first | (exact b2) | (exact trivial) | (with_reducible exact Nat.le_refl _) | decide | (exact (rfl : (0 : Nat) = 0)) | (exact Nat.le_of_ble_eq_true rfl) | ((with_reducible show False); contradiction) | (exact j)
      · have f2 : ¬ _ := fun w => c2 (l2.mp w)
        by_cases c3 : 128 ≤ db
        · have f3 := l3.mpr c3
          have j := j120 0 (Bv_f (by omega))
          refine run.go [120] 60 ?_
          repeat' (first | apply And.intro | (intro q; exact absurd q (by decide)) | (intro q; exact absurd (by decide) q) | (intro q; exact absurd rfl q) | (intro q; exact absurd q h1) | (intro q; exact absurd h1 q) | (intro q; exact absurd q f1) | (intro q; exact absurd f1 q) | (intro q; exact absurd q f2) | (intro q; exact absurd f2 q) | (intro q; exact absurd q f3) | (intro q; exact absurd f3 q) | intro _)
          all_goals first | (exact b2) | (exact trivial) | (with_reducible exact Nat.le_refl _) | decide | (exact (rfl : (0 : Nat) = 0)) | (exact Nat.le_of_ble_eq_true rfl) | ((with_reducible show False); contradiction) | (exact j)
        · have f3 : ¬ _ := fun w => c3 (l3.mp w)
          have j := j120 1 (Bv_t (by omega))
          refine run.go [120] 60 ?_
          repeat' (first | apply And.intro | (intro q; exact absurd q (by decide)) | (intro q; exact absurd (by decide) q) | (intro q; exact absurd rfl q) | (intro q; exact absurd q h1) | (intro q; exact absurd h1 q) | (intro q; exact absurd q f1) | (intro q; exact absurd f1 q) | (intro q; exact absurd q f2) | (intro q; exact absurd f2 q) | (intro q; exact absurd q f3) | (intro q; exact absurd f3 q) | intro _)
          all_goals first | (exact b2) | (exact trivial) | (with_reducible exact Nat.le_refl _) | decide | (exact (rfl : (0 : Nat) = 0)) | (exact Nat.le_of_ble_eq_true rfl) | ((with_reducible show False); contradiction) | (exact j)
  · have h1 : s.2.1 30 0 2 ≤ nI v := by rw [g2]; exact nI_le (by omega) (by omega)
    have g := caus_1 (X := X) (a := nI pl) (x := nI db) (Rl_of h) hbl c (by omega)
    have j120 : ∀ z, Z 120 0 (lCn a b v pl db bl ++ [(16, .inl 0)]) [aI z] s := by
      intro z
      rcases hbl with rfl | rfl
      · refine run.go [] 120 ?_
        repeat' (first | apply And.intro | (intro q; exact absurd q (by decide)) | (intro q; exact absurd (by decide) q) | (intro q; exact absurd rfl q) | intro _)
        all_goals first | (exact trivial) | (with_reducible exact Nat.le_refl _) | decide | (exact (rfl : (0 : Nat) = 0)) | (exact Nat.le_of_ble_eq_true rfl) | ((with_reducible show False); contradiction) | skip
        refine ⟨_, g, ?_⟩
        rintro r s2 ⟨rfl, h2⟩
        repeat' (first | apply And.intro | (intro q; exact absurd q (by decide)) | (intro q; exact absurd (by decide) q) | (intro q; exact absurd rfl q) | intro _)
        all_goals first | (exact trivial) | (with_reducible exact Nat.le_refl _) | decide | (exact (rfl : (0 : Nat) = 0)) | (exact Nat.le_of_ble_eq_true rfl) | ((with_reducible show False); contradiction) | (exact hN s2 (Rl_mono (by omega) h2))
      · refine run.go [] 120 ?_
        repeat' (first | apply And.intro | (intro q; exact absurd q (by decide)) | (intro q; exact absurd (by decide) q) | (intro q; exact absurd rfl q) | intro _)
        all_goals first | (exact trivial) | (with_reducible exact Nat.le_refl _) | decide | (exact (rfl : (0 : Nat) = 0)) | (exact Nat.le_of_ble_eq_true rfl) | ((with_reducible show False); contradiction) | skip
        refine ⟨_, g, ?_⟩
        rintro r s2 ⟨rfl, h2⟩
        repeat' (first | apply And.intro | (intro q; exact absurd q (by decide)) | (intro q; exact absurd (by decide) q) | (intro q; exact absurd rfl q) | intro _)
        all_goals first | (exact trivial) | (with_reducible exact Nat.le_refl _) | decide | (exact (rfl : (0 : Nat) = 0)) | (exact Nat.le_of_ble_eq_true rfl) | ((with_reducible show False); contradiction) | (exact hN s2 (Rl_mono (by omega) h2))
    refine run.go [120] 60 ?_
    repeat' (first | apply And.intro | (intro q; exact absurd q (by decide)) | (intro q; exact absurd (by decide) q) | (intro q; exact absurd rfl q) | (intro q; exact absurd q h1) | (intro q; exact absurd h1 q) | intro _)
    all_goals first | (exact b2) | (exact trivial) | (with_reducible exact Nat.le_refl _) | decide | (exact (rfl : (0 : Nat) = 0)) | (exact Nat.le_of_ble_eq_true rfl) | ((with_reducible show False); contradiction) | (exact j120 _)
set_option maxRecDepth 100000 in
set_option maxHeartbeats 4000000 in
theorem isC_n14 (run : Rn tab_L_isCause 20 N X Z) (h : Rg t fa mo T (rows s) s) (hn8 : s.1 2 < 8) (ha : a < 60000) (hb : b < 60000)
    (hN : ∀ s2, Rl (t + 1) s2 → N (some (aI 1)) s2) : Z 14 0 (lC 0 a b) [] s := by
  have hn := Rg_n h
  have b2 : Ib 2 4 := nIb (k := 2) (by decide) (by decide)
  have g2 : s.2.1 30 0 2 = nI (s.1 1) := h.1.2.2.2.2.1.2.1
  have nz : ¬ s.2.1 30 0 2 + 1 = 0 := by
    rw [g2, nIs]
    exact fun w => absurd ((n0 (by omega)).mp w) (by omega)
  obtain ⟨v, hv⟩ : ∃ v, v = a % (s.1 1 + 1) := ⟨_, rfl⟩
  obtain ⟨pl, hpl⟩ : ∃ pl, pl = a / 17 % 9 := ⟨_, rfl⟩
  have hv2 : v ≤ s.1 1 := by have := Nat.mod_lt a (show 0 < s.1 1 + 1 by omega); omega
  have ev : irm (nI a) (s.2.1 30 0 (Int32.toNatClampNeg 2) + 1) = nI v := by rw [show Int32.toNatClampNeg 2 = 2 from rfl, g2, nIs, irmN (by omega) (by omega) (by omega), hv]
  have el : irm (nI a / 17) 9 = nI pl := by
    rw [show nI a / 17 = nI (a / 17) from divN (d := 17) (by omega) (by decide) (by decide), hpl]
    exact irmN (d := 9) (by omega) (by decide) (by decide)
  have j63 : ∀ db, db < 129 → Z 63 0 (lC 0 a b ++ [(12, .inl (nI v)), (13, .inl (nI pl))]) [aI (nI db)] s := by
    intro db hdb
    have k1 := isC_n79 (a := a) (b := b) (bl := 1) (pl := pl) run h hn8 hv2 (by omega) hdb (Or.inr rfl) hN
    have k2 := isC_n79 (a := a) (b := b) (bl := 0) (pl := pl) run h hn8 hv2 (by omega) hdb (Or.inl rfl) hN
    refine run.go [79] 60 ?_
    repeat' (first | apply And.intro | (intro q; exact absurd q (by decide)) | (intro q; exact absurd (by decide) q) | (intro q; exact absurd rfl q) | intro _)
    all_goals first | (exact trivial) | (with_reducible exact Nat.le_refl _) | decide | (exact (rfl : (0 : Nat) = 0)) | (exact Nat.le_of_ble_eq_true rfl) | ((with_reducible show False); contradiction) | (exact k1) | (exact k2)
  have k1 := j63 (b / 9 % 129) (by omega)
  have k2 := j63 (64 + b % 64) (by omega)
  have f1 : irm (nI b / 9) 129 = nI (b / 9 % 129) := by
    rw [show nI b / 9 = nI (b / 9) from divN (d := 9) (by omega) (by decide) (by decide)]
    exact irmN (d := 129) (by omega) (by decide) (by decide)
  have f2 : 64 + irm (nI b) 64 = nI (64 + b % 64) := by
    rw [show irm (nI b) 64 = nI (b % 64) from irmN (d := 64) (by omega) (by decide) (by decide)]
    exact nI_add 64 _
  rw [← f1, ← ev, ← el] at k1
  rw [← f2, ← ev, ← el] at k2
  refine run.go [63] 60 ?_
  repeat' (first | apply And.intro | (intro q; exact absurd q (by decide)) | (intro q; exact absurd (by decide) q) | (intro q; exact absurd rfl q) | intro _)
  all_goals first | (exact b2) | (exact nz) | (exact trivial) | (with_reducible exact Nat.le_refl _) | decide | (exact (rfl : (0 : Nat) = 0)) | (exact Nat.le_of_ble_eq_true rfl) | ((with_reducible show False); contradiction) | (exact k1) | (exact k2)
end IsCs6
set_option maxRecDepth 20000 in
set_option maxHeartbeats 2000000 in
theorem M_L_isCause : GMet yL_isCause cL_isCause 22 (some .boolean) 13 20 sp_L_isCause := by
  refine GMet.rn (own := RL) (by decide) rfl [0, 1, 2, 3, 4, 5, 6, 7, 8, 9, 10, 11, 12, 13, 14, 15, 16, 17, 18, 19, 20, 21] rfl tok_L_isCause ?_
  intro av s0 N X h Z run
  unfold sp_L_isCause at h
  split at h
  rotate_left
  · exact h.elim
  rename_i what one two
  obtain ⟨t, w, a, b, ht, hw, ha, hb, rfl, rfl, rfl, hR, hN⟩ := h
  have hn := Rl_n hR
  have b3 : Ib 3 4 := nIb (k := 3) (by decide) (by decide)
  obtain ⟨fa, mo, T, h⟩ := id hR
  have g3 : s0.2.1 30 0 3 = nI (s0.1 2) := h.1.2.2.2.2.1.2.2
  have j425 := isC_425 run ht h hw ha hb hN
  by_cases w0 : w = 0
  · subst w0
    by_cases c : s0.1 2 < 8
    · have h1 : ¬ (8 : Int32) ≤ s0.2.1 30 0 3 := by rw [g3]; exact nI_ge (b := 8) c (by decide)
      have j := isC_n14 run h c ha hb hN
      refine run.go [14] 60 ?_
      repeat' (first | apply And.intro | (intro q; exact absurd q (by decide)) | (intro q; exact absurd (by decide) q) | (intro q; exact absurd rfl q) | (intro q; exact absurd q h1) | (intro q; exact absurd h1 q) | intro _)
      all_goals first | (exact b3) | (exact trivial) | (with_reducible exact Nat.le_refl _) | decide | (exact (rfl : (0 : Nat) = 0)) | (exact Nat.le_of_ble_eq_true rfl) | ((with_reducible show False); contradiction) | (exact j)
    · have h1 : (8 : Int32) ≤ s0.2.1 30 0 3 := by rw [g3]; exact Int32.not_lt.mp (nI_nlt (b := 8) (by omega) (by omega))
      refine run.go [425] 60 ?_
      repeat' (first | apply And.intro | (intro q; exact absurd q (by decide)) | (intro q; exact absurd (by decide) q) | (intro q; exact absurd rfl q) | (intro q; exact absurd q h1) | (intro q; exact absurd h1 q) | intro _)
      all_goals first | (exact b3) | (exact trivial) | (with_reducible exact Nat.le_refl _) | decide | (exact (rfl : (0 : Nat) = 0)) | (exact Nat.le_of_ble_eq_true rfl) | ((with_reducible show False); contradiction) | (exact j425)
  · have h1 : ¬ nI w = 0 := fun z => w0 ((n0 (by omega)).mp z)
    refine run.go [425] 60 ?_
    repeat' (first | apply And.intro | (intro q; exact absurd q (by decide)) | (intro q; exact absurd (by decide) q) | (intro q; exact absurd rfl q) | (intro q; exact absurd q h1) | (intro q; exact absurd h1 q) | intro _)
    all_goals first | (exact trivial) | (with_reducible exact Nat.le_refl _) | decide | (exact (rfl : (0 : Nat) = 0)) | (exact Nat.le_of_ble_eq_true rfl) | ((with_reducible show False); contradiction) | (exact j425)

