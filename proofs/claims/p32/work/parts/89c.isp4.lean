/-! the law's isPerson: dispensations -/
theorem bit_le : ∀ a, a < 2 → ∀ b, b < 2 → ∀ c, c < 2 → ((nI (a + 2 * b + 8 * c) &&& nI 1 ≤ 0 ↔ a = 0) ∧ (nI (a + 2 * b + 8 * c) &&& nI 2 ≤ 0 ↔ b = 0) ∧ (nI (a + 2 * b + 8 * c) &&& nI 8 ≤ 0 ↔ c = 0)) := by decide +kernel
section IsPs4
variable {N : Nt} {X : Xt} {Z : Kt} {s : Sg} {t a b p : Nat} {x : Int32} {fa mo : Nat → Nat} {T : Nat → Nat → Nat}
theorem Rg_pa (h : Rg t fa mo T (rows s) s) : paR s (s.1 0) fa mo := by
  have hn := (Rg_n h).1
  refine ⟨hn, fun k hk => ?_⟩
  obtain ⟨f1, f2⟩ := Rg_fm h hk
  obtain ⟨ho, ri, od, ba, li, hP⟩ := Rg_p h hk
  exact ⟨f1, f2, ho, ri, ba, 1 - li, Pp_pR hP (by omega) (by omega)⟩
theorem Rg_18 (h : Rg t fa mo T (rows s) s) : s.1 18 = 0 ∧ s.1 14 = 0 := ⟨h.1.2.2.1.2.2, (of_eq_true h.1.2.1).2.2.1⟩
/-- one kind of what hinders, and whether it is dispensed -/
theorem lh_k (h : Rg t fa mo T (rows s) s) (ht : t ≤ 64) {p q n k : Nat} (hp : p < s.1 0) (hq : q < s.1 0) (hn : s.2.1 23 0 15 = nI n) (hn2 : n ≤ 15) (hk : k = 1 ∨ k = 2 ∨ k = 8) : ∃ hb db : Nat, hb < 2 ∧ db < 2 ∧ (hinV s (kinV (lnF fa mo p) (lnF fa mo q) p q) p q (s.2.1 30 0 0) &&& nI k ≤ 0 ↔ hb = 0) ∧
    (db = 1 ↔ ∃ j, j < n ∧ dsP s (nI p) (nI q) (nI k) j) ∧ (¬ lhC s (nI p) (nI q) &&& nI k = 0 ↔ (hb = 1 ∧ db = 0)) ∧ (k = 2 → hb = 1 → (ilC s (nI p) (nI q) ∨ dgC s (nI p) (nI q) ≤ 4)) := by
  obtain ⟨a, b, c, x, y, z, ⟨l1, l2, l3⟩, ⟨m1, m2, m3⟩, e1, e2, e3, e4, e5, e6⟩ := lh_cl h ht hp hq hn hn2
  obtain ⟨a1, a2⟩ := ml2 l1 m1
  obtain ⟨b1, b2⟩ := ml2 l2 m2
  obtain ⟨c1, c2⟩ := ml2 l3 m3
  obtain ⟨g1, g2, g3⟩ := bit_le a l1 b l2 c l3
  obtain ⟨k1, k2, k3⟩ := bit_an _ a1 _ b1 _ c1
  rw [e1, e6]
  rcases hk with rfl | rfl | rfl
  · exact ⟨a, x, l1, m1, g1, e3, k1.trans a2, fun w => absurd w (by decide)⟩
  · exact ⟨b, y, l2, m2, g2, e4, k2.trans b2, fun _ w => e2.mp w⟩
  · exact ⟨c, z, l3, m3, g3, e5, k3.trans c2, fun w => absurd w (by decide)⟩
theorem lwD_e {n p q k : Nat} (hn : s.2.1 23 0 15 = nI n) (hn2 : n < 15) : lwD s n p q k = stS (stS s 23 0 (s.2.1 23 0 15).toNatClampNeg (nI p + 16 * nI q + 256 * nI k)) 23 0 15 ((stS s 23 0 (s.2.1 23 0 15).toNatClampNeg (nI p + 16 * nI q + 256 * nI k)).2.1 23 0 15 + 1) := by
  have e1 : nI p + 16 * nI q + 256 * nI k = nI (p + 16 * q + 256 * k) := by
    rw [show (16 : Int32) = nI 16 from rfl, show (256 : Int32) = nI 256 from rfl, nIm, nIm, nI_add, nI_add]
  have e2 : (nI n).toNatClampNeg = n := nI_clamp (by omega)
  rw [e1, hn, e2, stS_get, if_neg (by omega), hn, nIs]
  rfl
abbrev lPd (a b p : Nat) (x : Int32) (o k : Nat) (y z : Int32) : LC := lPp 5 a b p x ++ [(12, .inl (nI o)), (13, .inl (nI k)), (14, .inl y), (15, .inl z)]
set_option maxRecDepth 100000 in
set_option maxHeartbeats 4000000 in
theorem isP_d1109 {o k nd hb u : Nat} {v : Int32} (run : Rn tab_L_isPerson 20 N X Z) (ht : t < 64) (h : Rg t fa mo T (rows s) s) (hp : p < s.1 0) (ho : o < s.1 0) (hpo : ¬ p = o) (hk : k = 1 ∨ k = 2 ∨ k = 8) (hnd : s.2.1 23 0 15 = nI nd) (hnd2 : nd < 15) (hN : ∀ s2, Rl (t + 1) s2 → N (some (aI 1)) s2)
    (hv : Bv v (¬ lhC s (nI p) (nI o) &&& nI k = 0 ∧ cbD s (nI p) (nI o) (nI k))) (hu : u = 2 ∨ u = 4) : Z 1109 u (lPd a b p 1 o k 1 1 ++ [(16, .inl v)]) [] s := by
  have kk : nI k = 1 ∨ nI k = 2 ∨ nI k = 8 := by
    rcases hk with rfl | rfl | rfl
    · exact Or.inl rfl
    · exact Or.inr (Or.inl rfl)
    · exact Or.inr (Or.inr rfl)
  have b15 : Ib 15 16 := nIb (k := 15) (by decide) (by decide)
  have bn : Ib (s.2.1 23 0 15) 16 := by rw [hnd]; exact nIb (by omega) (by decide)
  rcases hv with ⟨rfl, hv⟩ | ⟨rfl, hv⟩
  · have g := disp_0 (X := X) h hp ho hpo hk hnd hnd2 hv
    rw [lwD_e hnd hnd2] at g
    rcases hu with rfl | rfl
    · refine run.go [] 80 ?_
      repeat' (first | apply And.intro | (intro q; exact absurd q (by decide)) | (intro q; exact absurd (by decide) q) | (intro q; exact absurd rfl q) | intro _)
      all_goals first | (exact b15) | (exact bn) | (exact trivial) | (with_reducible exact Nat.le_refl _) | decide | (exact (rfl : (0 : Nat) = 0)) | (exact Nat.le_of_ble_eq_true rfl) | ((with_reducible show False); contradiction) | skip
      refine ⟨_, g, ?_⟩
      rintro r s2 ⟨rfl, h2⟩
      repeat' (first | apply And.intro | (intro q; exact absurd q (by decide)) | (intro q; exact absurd (by decide) q) | (intro q; exact absurd rfl q) | intro _)
      all_goals first | (exact trivial) | (with_reducible exact Nat.le_refl _) | decide | (exact (rfl : (0 : Nat) = 0)) | (exact Nat.le_of_ble_eq_true rfl) | ((with_reducible show False); contradiction) | (exact hN s2 (Rl_mono (by omega) h2))
    · refine run.go [] 80 ?_
      repeat' (first | apply And.intro | (intro q; exact absurd q (by decide)) | (intro q; exact absurd (by decide) q) | (intro q; exact absurd rfl q) | intro _)
      all_goals first | (exact b15) | (exact bn) | (exact trivial) | (with_reducible exact Nat.le_refl _) | decide | (exact (rfl : (0 : Nat) = 0)) | (exact Nat.le_of_ble_eq_true rfl) | ((with_reducible show False); contradiction) | skip
      refine ⟨_, g, ?_⟩
      rintro r s2 ⟨rfl, h2⟩
      repeat' (first | apply And.intro | (intro q; exact absurd q (by decide)) | (intro q; exact absurd (by decide) q) | (intro q; exact absurd rfl q) | intro _)
      all_goals first | (exact trivial) | (with_reducible exact Nat.le_refl _) | decide | (exact (rfl : (0 : Nat) = 0)) | (exact Nat.le_of_ble_eq_true rfl) | ((with_reducible show False); contradiction) | (exact hN s2 (Rl_mono (by omega) h2))
  · have g := disp_3 (X := X) (Rl_of h) hp ho hpo kk hv
    rcases hu with rfl | rfl
    · refine run.go [] 80 ?_
      repeat' (first | apply And.intro | (intro q; exact absurd q (by decide)) | (intro q; exact absurd (by decide) q) | (intro q; exact absurd rfl q) | intro _)
      all_goals first | (exact b15) | (exact bn) | (exact trivial) | (with_reducible exact Nat.le_refl _) | decide | (exact (rfl : (0 : Nat) = 0)) | (exact Nat.le_of_ble_eq_true rfl) | ((with_reducible show False); contradiction) | skip
      refine ⟨_, g, ?_⟩
      rintro r s2 ⟨rfl, h2⟩
      repeat' (first | apply And.intro | (intro q; exact absurd q (by decide)) | (intro q; exact absurd (by decide) q) | (intro q; exact absurd rfl q) | intro _)
      all_goals first | (exact trivial) | (with_reducible exact Nat.le_refl _) | decide | (exact (rfl : (0 : Nat) = 0)) | (exact Nat.le_of_ble_eq_true rfl) | ((with_reducible show False); contradiction) | (exact hN s2 (Rl_mono (by omega) h2))
    · refine run.go [] 80 ?_
      repeat' (first | apply And.intro | (intro q; exact absurd q (by decide)) | (intro q; exact absurd (by decide) q) | (intro q; exact absurd rfl q) | intro _)
      all_goals first | (exact b15) | (exact bn) | (exact trivial) | (with_reducible exact Nat.le_refl _) | decide | (exact (rfl : (0 : Nat) = 0)) | (exact Nat.le_of_ble_eq_true rfl) | ((with_reducible show False); contradiction) | skip
      refine ⟨_, g, ?_⟩
      rintro r s2 ⟨rfl, h2⟩
      repeat' (first | apply And.intro | (intro q; exact absurd q (by decide)) | (intro q; exact absurd (by decide) q) | (intro q; exact absurd rfl q) | intro _)
      all_goals first | (exact trivial) | (with_reducible exact Nat.le_refl _) | decide | (exact (rfl : (0 : Nat) = 0)) | (exact Nat.le_of_ble_eq_true rfl) | ((with_reducible show False); contradiction) | (exact hN s2 (Rl_mono (by omega) h2))
set_option maxRecDepth 100000 in
set_option maxHeartbeats 4000000 in
theorem isP_d1014 {o k nd hb : Nat} {v : Int32} (run : Rn tab_L_isPerson 20 N X Z) (ht : t < 64) (h : Rg t fa mo T (rows s) s) (hp : p < s.1 0) (ho : o < s.1 0) (hpo : ¬ p = o) (hk : k = 1 ∨ k = 2 ∨ k = 8) (hnd : s.2.1 23 0 15 = nI nd) (hnd2 : nd < 15) (hN : ∀ s2, Rl (t + 1) s2 → N (some (aI 1)) s2)
    (hv : Bv v (¬ lhC s (nI p) (nI o) &&& nI k = 0)) (hh : k = 2 → v = 1 → (ilC s (nI p) (nI o) ∨ dgC s (nI p) (nI o) ≤ 4)) : Z 1014 2 (lPd a b p 1 o k 1 1 ++ [(16, .inl v)]) [] s := by
  have hn := Rg_n h
  have cp : (nI p).toNatClampNeg = p := nI_clamp (by omega)
  have co : (nI o).toNatClampNeg = o := nI_clamp (by omega)
  have bp : Ib (nI p) 33 := nIb (by omega) (by decide)
  have bo : Ib (nI o) 33 := nIb (by omega) (by decide)
  have b0 : Ib 0 4 := nIb (k := 0) (by decide) (by decide)
  rcases hv with ⟨rfl, hv⟩ | ⟨rfl, hv⟩
  · rcases hk with rfl | rfl | rfl
    · have cb := cb_1 h (by omega) hp ho
      have j := fun v hv => isP_d1109 (a := a) (b := b) (u := 2) (v := v) (hb := 0) run ht h hp ho hpo (Or.inl rfl) hnd hnd2 hN hv (Or.inl rfl)
      by_cases c1 : s.2.1 30 0 0 - s.2.1 21 0 p < 5040
      · have j := j 0 (Bv_f fun w => (cb.mp w.2).1 c1)
        rw [← cp] at c1
        refine run.go [1109] 80 ?_
        repeat' (first | apply And.intro | (intro q; exact absurd q (by decide)) | (intro q; exact absurd (by decide) q) | (intro q; exact absurd rfl q) | (intro q; exact absurd q c1) | (intro q; exact absurd c1 q) | intro _)
        all_goals first | (exact b0) | (exact bp) | (exact bo) | (exact trivial) | (with_reducible exact Nat.le_refl _) | decide | (exact (rfl : (0 : Nat) = 0)) | (exact Nat.le_of_ble_eq_true rfl) | ((with_reducible show False); contradiction) | (exact j)
      · by_cases c2 : s.2.1 30 0 0 - s.2.1 21 0 o < 5040
        · have j := j 0 (Bv_f fun w => (cb.mp w.2).2 c2)
          rw [← cp] at c1
          rw [← co] at c2
          refine run.go [1109] 80 ?_
          repeat' (first | apply And.intro | (intro q; exact absurd q (by decide)) | (intro q; exact absurd (by decide) q) | (intro q; exact absurd rfl q) | (intro q; exact absurd q c1) | (intro q; exact absurd c1 q) | (intro q; exact absurd q c2) | (intro q; exact absurd c2 q) | intro _)
          all_goals first | (exact b0) | (exact bp) | (exact bo) | (exact trivial) | (with_reducible exact Nat.le_refl _) | decide | (exact (rfl : (0 : Nat) = 0)) | (exact Nat.le_of_ble_eq_true rfl) | ((with_reducible show False); contradiction) | (exact j)
        · have j := j 1 (Bv_t ⟨hv, cb.mpr ⟨c1, c2⟩⟩)
          rw [← cp] at c1
          rw [← co] at c2
          refine run.go [1109] 80 ?_
          repeat' (first | apply And.intro | (intro q; exact absurd q (by decide)) | (intro q; exact absurd (by decide) q) | (intro q; exact absurd rfl q) | (intro q; exact absurd q c1) | (intro q; exact absurd c1 q) | (intro q; exact absurd q c2) | (intro q; exact absurd c2 q) | intro _)
          all_goals first | (exact b0) | (exact bp) | (exact bo) | (exact trivial) | (with_reducible exact Nat.le_refl _) | decide | (exact (rfl : (0 : Nat) = 0)) | (exact Nat.le_of_ble_eq_true rfl) | ((with_reducible show False); contradiction) | (exact j)
    · have cb := cb_2 h hp ho (hh rfl rfl)
      have j := fun v hv => isP_d1109 (a := a) (b := b) (u := 4) (v := v) (hb := 0) run ht h hp ho hpo (Or.inr (Or.inl rfl)) hnd hnd2 hN hv (Or.inr rfl)
      have i1 : sp_L_kin [aR 20 0, aI (nI p), aI (nI o)] s (fun r s' => r = some (aI (kinV (lnF fa mo p) (lnF fa mo o) p o)) ∧ s' = s) X := ⟨s.1 0, p, o, fa, mo, hp, ho, rfl, rfl, Rg_pa h, (Rg_18 h).1, (Rg_18 h).2, rfl, rfl⟩
      obtain ⟨its, hits⟩ : ∃ its, its = kinV (lnF fa mo p) (lnF fa mo o) p o := ⟨_, rfl⟩
      rw [← hits] at i1 cb
      refine run.go [1109] 80 ?_
      repeat' (first | apply And.intro | (intro q; exact absurd q (by decide)) | (intro q; exact absurd (by decide) q) | (intro q; exact absurd rfl q) | intro _)
      all_goals first | (exact trivial) | (with_reducible exact Nat.le_refl _) | decide | (exact (rfl : (0 : Nat) = 0)) | (exact Nat.le_of_ble_eq_true rfl) | ((with_reducible show False); contradiction) | skip
      refine ⟨_, i1, ?_⟩
      rintro r s' ⟨rfl, rfl⟩
      by_cases c1 : its = 300
      · have j := j 1 (Bv_t ⟨hv, cb.mpr (Or.inl c1)⟩)
        repeat' (first | apply And.intro | (intro q; exact absurd q (by decide)) | (intro q; exact absurd (by decide) q) | (intro q; exact absurd rfl q) | (intro q; exact absurd q c1) | (intro q; exact absurd c1 q) | intro _)
        all_goals first | (exact trivial) | (with_reducible exact Nat.le_refl _) | decide | (exact (rfl : (0 : Nat) = 0)) | (exact Nat.le_of_ble_eq_true rfl) | ((with_reducible show False); contradiction) | (exact run.take 17 j)
      · by_cases c2 : its = 400
        · have j := j 1 (Bv_t ⟨hv, cb.mpr (Or.inr c2)⟩)
          repeat' (first | apply And.intro | (intro q; exact absurd q (by decide)) | (intro q; exact absurd (by decide) q) | (intro q; exact absurd rfl q) | (intro q; exact absurd q c1) | (intro q; exact absurd c1 q) | (intro q; exact absurd q c2) | (intro q; exact absurd c2 q) | intro _)
          all_goals first | (exact trivial) | (with_reducible exact Nat.le_refl _) | decide | (exact (rfl : (0 : Nat) = 0)) | (exact Nat.le_of_ble_eq_true rfl) | ((with_reducible show False); contradiction) | (exact run.take 17 j)
        · have j := j 0 (Bv_f fun w => (cb.mp w.2).elim c1 c2)
          repeat' (first | apply And.intro | (intro q; exact absurd q (by decide)) | (intro q; exact absurd (by decide) q) | (intro q; exact absurd rfl q) | (intro q; exact absurd q c1) | (intro q; exact absurd c1 q) | (intro q; exact absurd q c2) | (intro q; exact absurd c2 q) | intro _)
          all_goals first | (exact trivial) | (with_reducible exact Nat.le_refl _) | decide | (exact (rfl : (0 : Nat) = 0)) | (exact Nat.le_of_ble_eq_true rfl) | ((with_reducible show False); contradiction) | (exact run.take 17 j)
    · have j := isP_d1109 (a := a) (b := b) (u := 2) (v := 1) (hb := 0) run ht h hp ho hpo (Or.inr (Or.inr rfl)) hnd hnd2 hN (Bv_t ⟨hv, cb_8⟩) (Or.inl rfl)
      refine run.go [1109] 80 ?_
      repeat' (first | apply And.intro | (intro q; exact absurd q (by decide)) | (intro q; exact absurd (by decide) q) | (intro q; exact absurd rfl q) | intro _)
      all_goals first | (exact trivial) | (with_reducible exact Nat.le_refl _) | decide | (exact (rfl : (0 : Nat) = 0)) | (exact Nat.le_of_ble_eq_true rfl) | ((with_reducible show False); contradiction) | (exact j)
  · have j := isP_d1109 (a := a) (b := b) (u := 2) (v := 0) (hb := 0) run ht h hp ho hpo hk hnd hnd2 hN (Bv_f fun w => hv w.1) (Or.inl rfl)
    refine run.go [1109] 80 ?_
    repeat' (first | apply And.intro | (intro q; exact absurd q (by decide)) | (intro q; exact absurd (by decide) q) | (intro q; exact absurd rfl q) | intro _)
    all_goals first | (exact trivial) | (with_reducible exact Nat.le_refl _) | decide | (exact (rfl : (0 : Nat) = 0)) | (exact Nat.le_of_ble_eq_true rfl) | ((with_reducible show False); contradiction) | (exact j)
set_option maxRecDepth 100000 in
set_option maxHeartbeats 4000000 in
theorem isP_d954 {o k : Nat} {y z : Int32} (run : Rn tab_L_isPerson 20 N X Z) (ht : t < 64) (hR : Rl t s) (hp : p ≤ s.1 0) (ho : o ≤ s.1 0) (hk : k = 1 ∨ k = 2 ∨ k = 4 ∨ k = 8) (hx : Bv x (p < s.1 0)) (hy : Bv y (p < s.1 0 ∧ o < s.1 0)) (hz : Bv z (¬ p = o ∧ ¬ k = 4)) (hN : ∀ s2, Rl (t + 1) s2 → N (some (aI 1)) s2) :
    Z 954 0 (lPd a b p x o k y z) [] s := by
  have hn := Rl_n hR
  have b15 : Ib 15 16 := nIb (k := 15) (by decide) (by decide)
  have b0 : Ib 0 4 := nIb (k := 0) (by decide) (by decide)
  obtain ⟨fa, mo, T, h⟩ := id hR
  obtain ⟨nd, hnd2, hnd⟩ := ds_n h
  by_cases e : nd = 15
  · have e15 : s.2.1 23 0 15 = 15 := by rw [hnd, e]; rfl
    have hf := hN s (Rl_mono (Nat.le_succ t) hR)
    refine run.go [] 80 ?_
    repeat' (first | apply And.intro | (intro q; exact absurd q (by decide)) | (intro q; exact absurd (by decide) q) | (intro q; exact absurd rfl q) | (intro q; exact absurd q e15) | (intro q; exact absurd e15 q) | intro _)
    all_goals first | (exact b15) | (exact trivial) | (with_reducible exact Nat.le_refl _) | decide | (exact (rfl : (0 : Nat) = 0)) | (exact Nat.le_of_ble_eq_true rfl) | ((with_reducible show False); contradiction) | (exact hf)
  · have hnd3 : nd < 15 := by omega
    have e15 : ¬ s.2.1 23 0 15 = 15 := by
      rw [hnd]
      exact fun w => e ((nI_eq (b := 15) (by omega) (by decide)).mp w)
    rcases hy with ⟨rfl, hy⟩ | ⟨rfl, hy⟩
    · obtain rfl := Bv_1 hx hy.1
      rcases hz with ⟨rfl, hz⟩ | ⟨rfl, hz⟩
      · have hk3 : k = 1 ∨ k = 2 ∨ k = 8 := by omega
        obtain ⟨hb, db, l1, l2, k1, k2, k3, k4⟩ := lh_k h (by omega) hy.1 hy.2 hnd hnd2 hk3
        have i1 : sp_L_hinders [aR 20 0, aR 21 0, aI (nI p), aI (nI o), aI (s.2.1 30 0 0)] s (fun r s' => r = some (aI (hinV s (kinV (lnF fa mo p) (lnF fa mo o) p o) p o (s.2.1 30 0 0))) ∧ s' = s) X := ⟨s.1 0, p, o, fa, mo, hy.1, hy.2, rfl, rfl, Rg_pa h, (Rg_18 h).1, (Rg_18 h).2, rfl, rfl⟩
        obtain ⟨hv, hhv⟩ : ∃ hv, hv = hinV s (kinV (lnF fa mo p) (lnF fa mo o) p o) p o (s.2.1 30 0 0) := ⟨_, rfl⟩
        rw [← hhv] at i1 k1
        have i2 : sp_L_isDispensed [aR 23 0, aI (nI p), aI (nI o), aI (nI k)] s (fun r s' => s' = s ∧ ∃ y : Int32, r = some (aI y) ∧ Bv y (db = 1)) X := ⟨nd, hnd2, hnd, by rw [← k2]; exact ⟨fun q => ⟨rfl, _, rfl, Bv_t q⟩, fun q => ⟨rfl, _, rfl, Bv_f q⟩⟩⟩
        have j := fun v hv hh => isP_d1014 (a := a) (b := b) (v := v) (hb := 0) run ht h hy.1 hy.2 hz.1 hk3 hnd hnd3 hN hv hh
        refine run.go [1014] 80 ?_
        repeat' (first | apply And.intro | (intro q; exact absurd q (by decide)) | (intro q; exact absurd (by decide) q) | (intro q; exact absurd rfl q) | (intro q; exact absurd q e15) | (intro q; exact absurd e15 q) | intro _)
        all_goals first | (exact b15) | (exact b0) | (exact trivial) | (with_reducible exact Nat.le_refl _) | decide | (exact (rfl : (0 : Nat) = 0)) | (exact Nat.le_of_ble_eq_true rfl) | ((with_reducible show False); contradiction) | skip
        refine ⟨_, i1, ?_⟩
        rintro r s' ⟨rfl, rfl⟩
        by_cases c1 : hv &&& nI k ≤ 0
        · have j := j 0 (Bv_f fun w => by have := (k3.mp w).1; have := k1.mp c1; omega) (fun _ w => absurd w (by decide))
          repeat' (first | apply And.intro | (intro q; exact absurd q (by decide)) | (intro q; exact absurd (by decide) q) | (intro q; exact absurd rfl q) | (intro q; exact absurd q c1) | (intro q; exact absurd c1 q) | intro _)
          all_goals first | (exact trivial) | (with_reducible exact Nat.le_refl _) | decide | (exact (rfl : (0 : Nat) = 0)) | (exact Nat.le_of_ble_eq_true rfl) | ((with_reducible show False); contradiction) | (exact j)
        · have hb1 : hb = 1 := by
            have : ¬ hb = 0 := fun w => c1 (k1.mpr w)
            omega
          repeat' (first | apply And.intro | (intro q; exact absurd q (by decide)) | (intro q; exact absurd (by decide) q) | (intro q; exact absurd rfl q) | (intro q; exact absurd q c1) | (intro q; exact absurd c1 q) | intro _)
          all_goals first | (exact trivial) | (with_reducible exact Nat.le_refl _) | decide | (exact (rfl : (0 : Nat) = 0)) | (exact Nat.le_of_ble_eq_true rfl) | ((with_reducible show False); contradiction) | skip
          refine ⟨_, i2, ?_⟩
          rintro r s' ⟨rfl, y, rfl, hy2⟩
          rcases hy2 with ⟨rfl, hy2⟩ | ⟨rfl, hy2⟩
          · have j := j 0 (Bv_f fun w => by have := (k3.mp w).2; omega) (fun _ w => absurd w (by decide))
            repeat' (first | apply And.intro | (intro q; exact absurd q (by decide)) | (intro q; exact absurd (by decide) q) | (intro q; exact absurd rfl q) | intro _)
            all_goals first | (exact trivial) | (with_reducible exact Nat.le_refl _) | decide | (exact (rfl : (0 : Nat) = 0)) | (exact Nat.le_of_ble_eq_true rfl) | ((with_reducible show False); contradiction) | (exact j)
          · have j := j 1 (Bv_t (k3.mpr ⟨hb1, by omega⟩)) (fun w _ => k4 w hb1)
            repeat' (first | apply And.intro | (intro q; exact absurd q (by decide)) | (intro q; exact absurd (by decide) q) | (intro q; exact absurd rfl q) | intro _)
            all_goals first | (exact trivial) | (with_reducible exact Nat.le_refl _) | decide | (exact (rfl : (0 : Nat) = 0)) | (exact Nat.le_of_ble_eq_true rfl) | ((with_reducible show False); contradiction) | (exact j)
      · have g := disp_2 (X := X) (c := nI k) hR hy.1 hy.2 (fun w => hz ⟨w.1, fun w4 => by rw [w4] at w; exact absurd w.2 (by decide)⟩)
        refine run.go [] 80 ?_
        repeat' (first | apply And.intro | (intro q; exact absurd q (by decide)) | (intro q; exact absurd (by decide) q) | (intro q; exact absurd rfl q) | (intro q; exact absurd q e15) | (intro q; exact absurd e15 q) | intro _)
        all_goals first | (exact b15) | (exact trivial) | (with_reducible exact Nat.le_refl _) | decide | (exact (rfl : (0 : Nat) = 0)) | (exact Nat.le_of_ble_eq_true rfl) | ((with_reducible show False); contradiction) | skip
        refine ⟨_, g, ?_⟩
        rintro r s2 ⟨rfl, h2⟩
        repeat' (first | apply And.intro | (intro q; exact absurd q (by decide)) | (intro q; exact absurd (by decide) q) | (intro q; exact absurd rfl q) | intro _)
        all_goals first | (exact trivial) | (with_reducible exact Nat.le_refl _) | decide | (exact (rfl : (0 : Nat) = 0)) | (exact Nat.le_of_ble_eq_true rfl) | ((with_reducible show False); contradiction) | (exact hN s2 (Rl_mono (by omega) h2))
    · have g := disp_1 (X := X) (c := nI k) hR (p := p) (q := o) (by omega) (by omega) hy
      refine run.go [] 80 ?_
      repeat' (first | apply And.intro | (intro q; exact absurd q (by decide)) | (intro q; exact absurd (by decide) q) | (intro q; exact absurd rfl q) | (intro q; exact absurd q e15) | (intro q; exact absurd e15 q) | intro _)
      all_goals first | (exact b15) | (exact trivial) | (with_reducible exact Nat.le_refl _) | decide | (exact (rfl : (0 : Nat) = 0)) | (exact Nat.le_of_ble_eq_true rfl) | ((with_reducible show False); contradiction) | skip
      refine ⟨_, g, ?_⟩
      rintro r s2 ⟨rfl, h2⟩
      repeat' (first | apply And.intro | (intro q; exact absurd q (by decide)) | (intro q; exact absurd (by decide) q) | (intro q; exact absurd rfl q) | intro _)
      all_goals first | (exact trivial) | (with_reducible exact Nat.le_refl _) | decide | (exact (rfl : (0 : Nat) = 0)) | (exact Nat.le_of_ble_eq_true rfl) | ((with_reducible show False); contradiction) | (exact hN s2 (Rl_mono (by omega) h2))
set_option maxRecDepth 100000 in
set_option maxHeartbeats 4000000 in
theorem isP_disp (run : Rn tab_L_isPerson 20 N X Z) (ht : t < 64) (hR : Rl t s) (hb0 : b < 60000) (hp : p ≤ s.1 0) (hx : Bv x (p < s.1 0)) (hN : ∀ s2, Rl (t + 1) s2 → N (some (aI 1)) s2) : Z 852 0 (lPp 5 a b p x) [] s := by
  have hn := Rl_n hR
  have b1 : Ib 1 4 := nIb (k := 1) (by decide) (by decide)
  obtain ⟨fa, mo, T, h⟩ := id hR
  have g1 : s.2.1 30 0 1 = nI (s.1 0) := h.1.2.2.2.2.1.1
  obtain ⟨o, ho⟩ : ∃ o, o = b % (s.1 0 + 1) := ⟨_, rfl⟩
  have ho2 : o ≤ s.1 0 := by have := Nat.mod_lt b (show 0 < s.1 0 + 1 by omega); omega
  have eo : irm (nI b) (s.2.1 30 0 (Int32.toNatClampNeg 1) + 1) = nI o := by rw [show Int32.toNatClampNeg 1 = 1 from rfl, g1, nIs, irmN (by omega) (by omega) (by omega), ho]
  have nz : ¬ s.2.1 30 0 1 + 1 = 0 := by
    rw [g1, nIs]
    exact fun w => absurd ((n0 (by omega)).mp w) (by omega)
  have hle : ∀ o, o < s.1 0 → ¬ s.2.1 30 0 1 ≤ nI o := fun o ho => by rw [g1]; exact nI_ge ho (by omega)
  have hge : ∀ o, o ≤ s.1 0 → ¬ o < s.1 0 → s.2.1 30 0 1 ≤ nI o := fun o ho2 ho => by rw [g1]; exact nI_le (by omega) (by omega)
  have j911 : ∀ k, (k = 1 ∨ k = 2 ∨ k = 4 ∨ k = 8) → Z 911 0 (lPp 5 a b p x ++ [(12, .inl (nI o))]) [aI (nI k)] s := by
    intro k hk
    have j954 := fun y z => isP_d954 (a := a) (b := b) (y := y) (z := z) run ht hR hp ho2 hk hx
    have j934 : ∀ y, Bv y (p < s.1 0 ∧ o < s.1 0) → Z 934 0 (lPp 5 a b p x ++ [(12, .inl (nI o)), (13, .inl (nI k)), (14, .inl y)]) [] s := by
      intro y hy
      by_cases c1 : p = o
      · have j := j954 y 0 hy (Bv_f fun w => w.1 c1) hN
        have e1 : nI p = nI o := by rw [c1]
        refine run.go [954] 40 ?_
        repeat' (first | apply And.intro | (intro q; exact absurd q (by decide)) | (intro q; exact absurd (by decide) q) | (intro q; exact absurd rfl q) | (intro q; exact absurd q e1) | (intro q; exact absurd e1 q) | intro _)
        all_goals first | (exact trivial) | (with_reducible exact Nat.le_refl _) | decide | (exact (rfl : (0 : Nat) = 0)) | (exact Nat.le_of_ble_eq_true rfl) | ((with_reducible show False); contradiction) | (exact j)
      · have e1 : ¬ nI p = nI o := fun w => c1 ((nI_eq (by omega) (by omega)).mp w)
        by_cases c2 : k = 4
        · have j := j954 y 0 hy (Bv_f fun w => w.2 c2) hN
          subst c2
          refine run.go [954] 40 ?_
          repeat' (first | apply And.intro | (intro q; exact absurd q (by decide)) | (intro q; exact absurd (by decide) q) | (intro q; exact absurd rfl q) | (intro q; exact absurd q e1) | (intro q; exact absurd e1 q) | intro _)
          all_goals first | (exact trivial) | (with_reducible exact Nat.le_refl _) | decide | (exact (rfl : (0 : Nat) = 0)) | (exact Nat.le_of_ble_eq_true rfl) | ((with_reducible show False); contradiction) | (exact j)
        · have j := j954 y 1 hy (Bv_t ⟨c1, c2⟩) hN
          have e2 : ¬ nI k = 4 := fun w => c2 ((nI_eq (b := 4) (by omega) (by decide)).mp w)
          refine run.go [954] 40 ?_
          repeat' (first | apply And.intro | (intro q; exact absurd q (by decide)) | (intro q; exact absurd (by decide) q) | (intro q; exact absurd rfl q) | (intro q; exact absurd q e1) | (intro q; exact absurd e1 q) | (intro q; exact absurd q e2) | (intro q; exact absurd e2 q) | intro _)
          all_goals first | (exact trivial) | (with_reducible exact Nat.le_refl _) | decide | (exact (rfl : (0 : Nat) = 0)) | (exact Nat.le_of_ble_eq_true rfl) | ((with_reducible show False); contradiction) | (exact j)
    rcases hx with ⟨rfl, hx⟩ | ⟨rfl, hx⟩
    · by_cases c : o < s.1 0
      · have h1 := hle o c
        have j := j934 1 (Bv_t ⟨hx, c⟩)
        refine run.go [934] 40 ?_
        repeat' (first | apply And.intro | (intro q; exact absurd q (by decide)) | (intro q; exact absurd (by decide) q) | (intro q; exact absurd rfl q) | (intro q; exact absurd q h1) | (intro q; exact absurd h1 q) | intro _)
        all_goals first | (exact b1) | (exact trivial) | (with_reducible exact Nat.le_refl _) | decide | (exact (rfl : (0 : Nat) = 0)) | (exact Nat.le_of_ble_eq_true rfl) | ((with_reducible show False); contradiction) | (exact j)
      · have h1 := hge o ho2 c
        have j := j934 0 (Bv_f fun w => c w.2)
        refine run.go [934] 40 ?_
        repeat' (first | apply And.intro | (intro q; exact absurd q (by decide)) | (intro q; exact absurd (by decide) q) | (intro q; exact absurd rfl q) | (intro q; exact absurd q h1) | (intro q; exact absurd h1 q) | intro _)
        all_goals first | (exact b1) | (exact trivial) | (with_reducible exact Nat.le_refl _) | decide | (exact (rfl : (0 : Nat) = 0)) | (exact Nat.le_of_ble_eq_true rfl) | ((with_reducible show False); contradiction) | (exact j)
    · have j := j934 0 (Bv_f fun w => hx w.1)
      refine run.go [934] 40 ?_
      repeat' (first | apply And.intro | (intro q; exact absurd q (by decide)) | (intro q; exact absurd (by decide) q) | (intro q; exact absurd rfl q) | intro _)
      all_goals first | (exact b1) | (exact trivial) | (with_reducible exact Nat.le_refl _) | decide | (exact (rfl : (0 : Nat) = 0)) | (exact Nat.le_of_ble_eq_true rfl) | ((with_reducible show False); contradiction) | (exact j)
  refine run.go [911] 40 ?_
  repeat' (first | apply And.intro | (intro q; exact absurd q (by decide)) | (intro q; exact absurd (by decide) q) | (intro q; exact absurd rfl q) | intro _)
  all_goals first | (exact b1) | (exact nz) | (exact trivial) | (with_reducible exact Nat.le_refl _) | decide | (exact (rfl : (0 : Nat) = 0)) | (exact Nat.le_of_ble_eq_true rfl) | ((with_reducible show False); contradiction) | skip
  · (try dsimp only)
    rw [eo]
    have j := j911 8 (by decide)
    rw [show nI 8 = (8 : Int32) from by decide] at j
    exact j
  · (try dsimp only)
    rw [eo]
    have j := j911 2 (by decide)
    rw [show nI 2 = (2 : Int32) from by decide] at j
    exact j
  · (try dsimp only)
    rw [eo]
    have j := j911 1 (by decide)
    rw [show nI 1 = (1 : Int32) from by decide] at j
    exact j
  · (try dsimp only)
    rw [eo]
    have j := j911 4 (by decide)
    rw [show nI 4 = (4 : Int32) from by decide] at j
    exact j
end IsPs4

