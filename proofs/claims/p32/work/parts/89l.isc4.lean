/-! the law's isCause: a new cause, no such cause, all -/
section IsCs4
variable {N : Nt} {X : Xt} {Z : Kt} {s : Sg} {t a b k : Nat} {fa mo : Nat → Nat} {T : Nat → Nat → Nat}
set_option maxRecDepth 100000 in
set_option maxHeartbeats 4000000 in
theorem isC_none {w : Nat} (run : Rn tab_L_isCause 20 N X Z) (hR : Rl t s) (hw : w < 7) (hk : ¬ k < s.1 2) (hk2 : k < 100) (hN : ∀ s2, Rl (t + 1) s2 → N (some (aI 1)) s2) : Z 474 0 (lCq w a b k 0 3) [] s := by
  have b8 : Ib 8 9 := nIb (k := 8) (by decide) (by decide)
  have b56 : Ib 56 57 := nIb (k := 56) (by decide) (by decide)
  have doub : ∀ w, w < 2 → Z 474 0 (lCq w a b k 0 3) [] s := by
    intro w hw
    have hge : ¬ (2 : Int32) ≤ nI w := nI_ge (b := 2) hw (by decide)
    have j528 : ∀ x z, Z 528 0 (lCq w a b k 0 3 ++ [(15, .inl x)]) [aI z] s := by
      intro x z
      have g := fun v => doub_1 (X := X) (c := x) (Rl_scr (a := 26) (c := 8) (v := v) (by omega) hR) hk hk2
      refine run.go [] 90 ?_
      repeat' (first | apply And.intro | (intro q; exact absurd q (by decide)) | (intro q; exact absurd (by decide) q) | (intro q; exact absurd rfl q) | intro _)
      all_goals first | (exact b8) | (exact trivial) | (with_reducible exact Nat.le_refl _) | decide | (exact (rfl : (0 : Nat) = 0)) | (exact Nat.le_of_ble_eq_true rfl) | ((with_reducible show False); contradiction) | skip
      refine ⟨_, g _, ?_⟩
      rintro r s2 ⟨rfl, h2⟩
      repeat' (first | apply And.intro | (intro q; exact absurd q (by decide)) | (intro q; exact absurd (by decide) q) | (intro q; exact absurd rfl q) | intro _)
      all_goals first | (exact trivial) | (with_reducible exact Nat.le_refl _) | decide | (exact (rfl : (0 : Nat) = 0)) | (exact Nat.le_of_ble_eq_true rfl) | ((with_reducible show False); contradiction) | (exact hN s2 (Rl_mono (by omega) h2))
    have j508 : ∀ x, Z 508 0 (lCq w a b k 0 3) [aI x] s := by
      intro x
      refine run.go [528] 60 ?_
      repeat' (first | apply And.intro | (intro q; exact absurd q (by decide)) | (intro q; exact absurd (by decide) q) | (intro q; exact absurd rfl q) | intro _)
      all_goals first | (exact trivial) | (with_reducible exact Nat.le_refl _) | decide | (exact (rfl : (0 : Nat) = 0)) | (exact Nat.le_of_ble_eq_true rfl) | ((with_reducible show False); contradiction) | (exact j528 _ _)
    refine run.go [508] 60 ?_
    repeat' (first | apply And.intro | (intro q; exact absurd q (by decide)) | (intro q; exact absurd (by decide) q) | (intro q; exact absurd rfl q) | (intro q; exact absurd q hge) | (intro q; exact absurd hge q) | intro _)
    all_goals first | (exact trivial) | (with_reducible exact Nat.le_refl _) | decide | (exact (rfl : (0 : Nat) = 0)) | (exact Nat.le_of_ble_eq_true rfl) | ((with_reducible show False); contradiction) | (exact j508 _)
  have hw7 : w = 0 ∨ w = 1 ∨ w = 2 ∨ w = 3 ∨ w = 4 ∨ w = 5 ∨ w = 6 := by omega
  rcases hw7 with rfl | rfl | rfl | rfl | rfl | rfl | rfl
  · exact doub 0 (by decide)
  · exact doub 1 (by decide)
  · have j767 : ∀ y x z, Z 767 0 (lCq 2 a b k 0 3 ++ [(15, .inl y), (16, .inl x)]) [aI z] s := by
      intro y x z
      have g := fun v => proo_1 (X := X) (g := y) (w := x) (Rl_scr (a := 27) (c := 56) (v := v) (by omega) hR) hk hk2
      refine run.go [] 90 ?_
      repeat' (first | apply And.intro | (intro q; exact absurd q (by decide)) | (intro q; exact absurd (by decide) q) | (intro q; exact absurd rfl q) | intro _)
      all_goals first | (exact b56) | (exact trivial) | (with_reducible exact Nat.le_refl _) | decide | (exact (rfl : (0 : Nat) = 0)) | (exact Nat.le_of_ble_eq_true rfl) | ((with_reducible show False); contradiction) | skip
      refine ⟨_, g _, ?_⟩
      rintro r s2 ⟨rfl, h2⟩
      repeat' (first | apply And.intro | (intro q; exact absurd q (by decide)) | (intro q; exact absurd (by decide) q) | (intro q; exact absurd rfl q) | intro _)
      all_goals first | (exact trivial) | (with_reducible exact Nat.le_refl _) | decide | (exact (rfl : (0 : Nat) = 0)) | (exact Nat.le_of_ble_eq_true rfl) | ((with_reducible show False); contradiction) | (exact hN s2 (Rl_mono (by omega) h2))
    have j739 : ∀ y x, Z 739 0 (lCq 2 a b k 0 3 ++ [(15, .inl y)]) [aI x] s := by
      intro y x
      refine run.go [767] 60 ?_
      repeat' (first | apply And.intro | (intro q; exact absurd q (by decide)) | (intro q; exact absurd (by decide) q) | (intro q; exact absurd rfl q) | intro _)
      all_goals first | (exact trivial) | (with_reducible exact Nat.le_refl _) | decide | (exact (rfl : (0 : Nat) = 0)) | (exact Nat.le_of_ble_eq_true rfl) | ((with_reducible show False); contradiction) | (exact j767 _ _ _)
    have j703 : ∀ y, Z 703 0 (lCq 2 a b k 0 3) [aI y] s := by
      intro y
      refine run.go [739] 60 ?_
      repeat' (first | apply And.intro | (intro q; exact absurd q (by decide)) | (intro q; exact absurd (by decide) q) | (intro q; exact absurd rfl q) | intro _)
      all_goals first | (exact trivial) | (with_reducible exact Nat.le_refl _) | decide | (exact (rfl : (0 : Nat) = 0)) | (exact Nat.le_of_ble_eq_true rfl) | ((with_reducible show False); contradiction) | (exact j739 _ _)
    refine run.go [703] 60 ?_
    repeat' (first | apply And.intro | (intro q; exact absurd q (by decide)) | (intro q; exact absurd (by decide) q) | (intro q; exact absurd rfl q) | intro _)
    all_goals first | (exact trivial) | (with_reducible exact Nat.le_refl _) | decide | (exact (rfl : (0 : Nat) = 0)) | (exact Nat.le_of_ble_eq_true rfl) | ((with_reducible show False); contradiction) | (exact j703 _)
  · have g := fun v => publ_1 (X := X) (Rl_scr (a := 26) (c := 8) (v := v) (by omega) hR) hk hk2
    refine run.go [] 90 ?_
    repeat' (first | apply And.intro | (intro q; exact absurd q (by decide)) | (intro q; exact absurd (by decide) q) | (intro q; exact absurd rfl q) | intro _)
    all_goals first | (exact b8) | (exact trivial) | (with_reducible exact Nat.le_refl _) | decide | (exact (rfl : (0 : Nat) = 0)) | (exact Nat.le_of_ble_eq_true rfl) | ((with_reducible show False); contradiction) | skip
    refine ⟨_, g _, ?_⟩
    rintro r s2 ⟨rfl, h2⟩
    repeat' (first | apply And.intro | (intro q; exact absurd q (by decide)) | (intro q; exact absurd (by decide) q) | (intro q; exact absurd rfl q) | intro _)
    all_goals first | (exact trivial) | (with_reducible exact Nat.le_refl _) | decide | (exact (rfl : (0 : Nat) = 0)) | (exact Nat.le_of_ble_eq_true rfl) | ((with_reducible show False); contradiction) | (exact hN s2 (Rl_mono (by omega) h2))
  · have j1121 : ∀ x y z, Z 1121 0 (lCq 4 a b k 0 3 ++ [(15, .inl x), (16, .inl y), (17, .inl 0), (18, .inl z)]) [] s := by
      intro x y z
      have g := fun v => vote_1 (X := X) (j := x) (g := y) (Rl_scr (a := 28) (c := 8) (v := v) (by omega) hR) hk hk2
      refine run.go [] 120 ?_
      repeat' (first | apply And.intro | (intro q; exact absurd q (by decide)) | (intro q; exact absurd (by decide) q) | (intro q; exact absurd rfl q) | intro _)
      all_goals first | (exact b8) | (exact trivial) | (with_reducible exact Nat.le_refl _) | decide | (exact (rfl : (0 : Nat) = 0)) | (exact Nat.le_of_ble_eq_true rfl) | ((with_reducible show False); contradiction) | skip
      refine ⟨_, g _, ?_⟩
      rintro r s2 ⟨rfl, h2⟩
      repeat' (first | apply And.intro | (intro q; exact absurd q (by decide)) | (intro q; exact absurd (by decide) q) | (intro q; exact absurd rfl q) | intro _)
      all_goals first | (exact trivial) | (with_reducible exact Nat.le_refl _) | decide | (exact (rfl : (0 : Nat) = 0)) | (exact Nat.le_of_ble_eq_true rfl) | ((with_reducible show False); contradiction) | (exact hN s2 (Rl_mono (by omega) h2))
    have j1075 : ∀ x y, Z 1075 0 (lCq 4 a b k 0 3 ++ [(15, .inl x)]) [aI y] s := by
      intro x y
      refine run.go [1121] 60 ?_
      repeat' (first | apply And.intro | (intro q; exact absurd q (by decide)) | (intro q; exact absurd (by decide) q) | (intro q; exact absurd rfl q) | intro _)
      all_goals first | (exact trivial) | (with_reducible exact Nat.le_refl _) | decide | (exact (rfl : (0 : Nat) = 0)) | (exact Nat.le_of_ble_eq_true rfl) | ((with_reducible show False); contradiction) | (exact j1121 _ _ _)
    have j1032 : ∀ x, Z 1032 0 (lCq 4 a b k 0 3) [aI x] s := by
      intro x
      refine run.go [1075] 60 ?_
      repeat' (first | apply And.intro | (intro q; exact absurd q (by decide)) | (intro q; exact absurd (by decide) q) | (intro q; exact absurd rfl q) | intro _)
      all_goals first | (exact trivial) | (with_reducible exact Nat.le_refl _) | decide | (exact (rfl : (0 : Nat) = 0)) | (exact Nat.le_of_ble_eq_true rfl) | ((with_reducible show False); contradiction) | (exact j1075 _ _)
    refine run.go [1032] 60 ?_
    repeat' (first | apply And.intro | (intro q; exact absurd q (by decide)) | (intro q; exact absurd (by decide) q) | (intro q; exact absurd rfl q) | intro _)
    all_goals first | (exact trivial) | (with_reducible exact Nat.le_refl _) | decide | (exact (rfl : (0 : Nat) = 0)) | (exact Nat.le_of_ble_eq_true rfl) | ((with_reducible show False); contradiction) | (exact j1032 _)
  · have g := sent_1 (X := X) hR hk hk2
    refine run.go [] 90 ?_
    repeat' (first | apply And.intro | (intro q; exact absurd q (by decide)) | (intro q; exact absurd (by decide) q) | (intro q; exact absurd rfl q) | intro _)
    all_goals first | (exact trivial) | (with_reducible exact Nat.le_refl _) | decide | (exact (rfl : (0 : Nat) = 0)) | (exact Nat.le_of_ble_eq_true rfl) | ((with_reducible show False); contradiction) | skip
    refine ⟨_, g, ?_⟩
    rintro r s2 ⟨rfl, h2⟩
    repeat' (first | apply And.intro | (intro q; exact absurd q (by decide)) | (intro q; exact absurd (by decide) q) | (intro q; exact absurd rfl q) | intro _)
    all_goals first | (exact trivial) | (with_reducible exact Nat.le_refl _) | decide | (exact (rfl : (0 : Nat) = 0)) | (exact Nat.le_of_ble_eq_true rfl) | ((with_reducible show False); contradiction) | (exact hN s2 (Rl_mono (by omega) h2))
  · have g := appe_1 (X := X) hR hk hk2
    refine run.go [] 90 ?_
    repeat' (first | apply And.intro | (intro q; exact absurd q (by decide)) | (intro q; exact absurd (by decide) q) | (intro q; exact absurd rfl q) | intro _)
    all_goals first | (exact trivial) | (with_reducible exact Nat.le_refl _) | decide | (exact (rfl : (0 : Nat) = 0)) | (exact Nat.le_of_ble_eq_true rfl) | ((with_reducible show False); contradiction) | skip
    refine ⟨_, g, ?_⟩
    rintro r s2 ⟨rfl, h2⟩
    repeat' (first | apply And.intro | (intro q; exact absurd q (by decide)) | (intro q; exact absurd (by decide) q) | (intro q; exact absurd rfl q) | intro _)
    all_goals first | (exact trivial) | (with_reducible exact Nat.le_refl _) | decide | (exact (rfl : (0 : Nat) = 0)) | (exact Nat.le_of_ble_eq_true rfl) | ((with_reducible show False); contradiction) | (exact hN s2 (Rl_mono (by omega) h2))
set_option maxRecDepth 100000 in
set_option maxHeartbeats 4000000 in
theorem isC_425 {w : Nat} (run : Rn tab_L_isCause 20 N X Z) (ht : t < 64) (h : Rg t fa mo T (rows s) s) (hw : w < 7) (ha : a < 60000) (hb : b < 60000) (hN : ∀ s2, Rl (t + 1) s2 → N (some (aI 1)) s2) : Z 425 0 (lC w a b) [] s := by
  have hn := Rg_n h
  have b3 : Ib 3 4 := nIb (k := 3) (by decide) (by decide)
  have g3 : s.2.1 30 0 3 = nI (s.1 2) := h.1.2.2.2.2.1.2.2
  have nz : ¬ s.2.1 30 0 3 + 1 = 0 := by
    rw [g3, nIs]
    exact fun w => absurd ((n0 (by omega)).mp w) (by omega)
  obtain ⟨k, hk⟩ : ∃ k, k = a % (s.1 2 + 1) := ⟨_, rfl⟩
  have hk2 : k ≤ s.1 2 := by have := Nat.mod_lt a (show 0 < s.1 2 + 1 by omega); omega
  have ek : irm (nI a) (s.2.1 30 0 (Int32.toNatClampNeg 3) + 1) = nI k := by rw [show Int32.toNatClampNeg 3 = 3 from rfl, g3, nIs, irmN (by omega) (by omega) (by omega), hk]
  have ck : (nI k).toNatClampNeg = k := nI_clamp (by omega)
  have bk : Ib (nI k) 9 := nIb (by omega) (by decide)
  have j436 : Z 436 0 (lC w a b ++ [(12, .inl (nI k))]) [] s := by
    by_cases c : k < s.1 2
    · have h1 : ¬ s.2.1 30 0 3 ≤ nI k := by rw [g3]; exact nI_ge c (by omega)
      obtain ⟨vw, db, st, ins, qa, qb, qd, ex, ey, ez, hp⟩ := Rg_c h c
      have est : irm (s.2.1 26 0 (nI k).toNatClampNeg / 2048) 4 = nI st := by rw [ck]; exact cR_st (Cp_cR hn.2.1 hp)
      have j474 : Z 474 0 (lCq w a b k 1 (nI st)) [] s := by
        have dd : ∀ w, w < 2 → Z 474 0 (lCq w a b k 1 (nI st)) [] s := by
          intro w hw
          have hge : ¬ (2 : Int32) ≤ nI w := nI_ge (b := 2) hw (by decide)
          have j := isC_doubt (a := a) (w := w) run h hb c hp hN
          refine run.go [480] 60 ?_
          repeat' (first | apply And.intro | (intro q; exact absurd q (by decide)) | (intro q; exact absurd (by decide) q) | (intro q; exact absurd rfl q) | (intro q; exact absurd q hge) | (intro q; exact absurd hge q) | intro _)
          all_goals first | (exact trivial) | (with_reducible exact Nat.le_refl _) | decide | (exact (rfl : (0 : Nat) = 0)) | (exact Nat.le_of_ble_eq_true rfl) | ((with_reducible show False); contradiction) | (exact j)
        have hw7 : w = 0 ∨ w = 1 ∨ w = 2 ∨ w = 3 ∨ w = 4 ∨ w = 5 ∨ w = 6 := by omega
        rcases hw7 with rfl | rfl | rfl | rfl | rfl | rfl | rfl
        · exact dd 0 (by decide)
        · exact dd 1 (by decide)
        · have j := isC_proof (a := a) run ht h hb c hp hN
          refine run.go [682] 60 ?_
          repeat' (first | apply And.intro | (intro q; exact absurd q (by decide)) | (intro q; exact absurd (by decide) q) | (intro q; exact absurd rfl q) | intro _)
          all_goals first | (exact trivial) | (with_reducible exact Nat.le_refl _) | decide | (exact (rfl : (0 : Nat) = 0)) | (exact Nat.le_of_ble_eq_true rfl) | ((with_reducible show False); contradiction) | (exact j)
        · have j := isC_publ (a := a) (b := b) run h c hp hN
          refine run.go [906] 60 ?_
          repeat' (first | apply And.intro | (intro q; exact absurd q (by decide)) | (intro q; exact absurd (by decide) q) | (intro q; exact absurd rfl q) | intro _)
          all_goals first | (exact trivial) | (with_reducible exact Nat.le_refl _) | decide | (exact (rfl : (0 : Nat) = 0)) | (exact Nat.le_of_ble_eq_true rfl) | ((with_reducible show False); contradiction) | (exact j)
        · have j := isC_vote (a := a) run h hb c hp hN
          refine run.go [1014] 60 ?_
          repeat' (first | apply And.intro | (intro q; exact absurd q (by decide)) | (intro q; exact absurd (by decide) q) | (intro q; exact absurd rfl q) | intro _)
          all_goals first | (exact trivial) | (with_reducible exact Nat.le_refl _) | decide | (exact (rfl : (0 : Nat) = 0)) | (exact Nat.le_of_ble_eq_true rfl) | ((with_reducible show False); contradiction) | (exact j)
        · have j := isC_sent (a := a) (b := b) run h c hp hN
          refine run.go [1329] 60 ?_
          repeat' (first | apply And.intro | (intro q; exact absurd q (by decide)) | (intro q; exact absurd (by decide) q) | (intro q; exact absurd rfl q) | intro _)
          all_goals first | (exact trivial) | (with_reducible exact Nat.le_refl _) | decide | (exact (rfl : (0 : Nat) = 0)) | (exact Nat.le_of_ble_eq_true rfl) | ((with_reducible show False); contradiction) | (exact j)
        · have j := isC_appe (a := a) (b := b) run h c hp hN
          refine run.go [1442] 60 ?_
          repeat' (first | apply And.intro | (intro q; exact absurd q (by decide)) | (intro q; exact absurd (by decide) q) | (intro q; exact absurd rfl q) | intro _)
          all_goals first | (exact trivial) | (with_reducible exact Nat.le_refl _) | decide | (exact (rfl : (0 : Nat) = 0)) | (exact Nat.le_of_ble_eq_true rfl) | ((with_reducible show False); contradiction) | (exact j)
      rw [← est] at j474
      refine run.go [474] 60 ?_
      repeat' (first | apply And.intro | (intro q; exact absurd q (by decide)) | (intro q; exact absurd (by decide) q) | (intro q; exact absurd rfl q) | (intro q; exact absurd q h1) | (intro q; exact absurd h1 q) | intro _)
      all_goals first | (exact b3) | (exact bk) | (exact trivial) | (with_reducible exact Nat.le_refl _) | decide | (exact (rfl : (0 : Nat) = 0)) | (exact Nat.le_of_ble_eq_true rfl) | ((with_reducible show False); contradiction) | (exact j474)
    · have h1 : s.2.1 30 0 3 ≤ nI k := by rw [g3]; exact nI_le (by omega) (by omega)
      have j := isC_none (a := a) (b := b) run (Rl_of h) hw c (by omega) hN
      refine run.go [474] 60 ?_
      repeat' (first | apply And.intro | (intro q; exact absurd q (by decide)) | (intro q; exact absurd (by decide) q) | (intro q; exact absurd rfl q) | (intro q; exact absurd q h1) | (intro q; exact absurd h1 q) | intro _)
      all_goals first | (exact b3) | (exact trivial) | (with_reducible exact Nat.le_refl _) | decide | (exact (rfl : (0 : Nat) = 0)) | (exact Nat.le_of_ble_eq_true rfl) | ((with_reducible show False); contradiction) | (exact j)
  rw [← ek] at j436
  refine run.go [436] 60 ?_
  repeat' (first | apply And.intro | (intro q; exact absurd q (by decide)) | (intro q; exact absurd (by decide) q) | (intro q; exact absurd rfl q) | intro _)
  all_goals first | (exact b3) | (exact nz) | (exact trivial) | (with_reducible exact Nat.le_refl _) | decide | (exact (rfl : (0 : Nat) = 0)) | (exact Nat.le_of_ble_eq_true rfl) | ((with_reducible show False); contradiction) | (exact j436)
abbrev lCn (a b v pl db : Nat) (bl : Int32) : LC := lC 0 a b ++ [(12, .inl (nI v)), (13, .inl (nI pl)), (14, .inl (nI db)), (15, .inl bl)]
set_option maxRecDepth 100000 in
set_option maxHeartbeats 4000000 in
theorem isC_n326 {v pl db one oth u : Nat} {bl z yh cn : Int32} (run : Rn tab_L_isCause 20 N X Z) (h : Rg t fa mo T (rows s) s) (hn8 : s.1 2 < 8) (hv : v < s.1 1) (hpl : pl < 9) (hdb : db < 129) (hbl : bl = 0 ∨ bl = 1) (hz : Bv z (pl < 8 ∧ 0 < db ∧ db < 128)) (hcn : Bv cn ((pl < 8 ∧ 0 < db ∧ db < 128) ∧ (¬ bl = 0 ∨ icourt s v (nI pl)) ∧ mbj s (nI v)))
    (hu : u = 0 ∨ u = 4) (hN : ∀ s2, Rl (t + 1) s2 → N (some (aI 1)) s2) : Z 326 u (lCn a b v pl db bl ++ [(16, .inl 1), (17, .inl z), (18, .inl (nI one)), (19, .inl (nI oth)), (20, .inl yh), (21, .inl cn)]) [] s := by
  have hn := Rg_n h
  have b3 : Ib 3 4 := nIb (k := 3) (by decide) (by decide)
  have g3 : s.2.1 30 0 3 = nI (s.1 2) := h.1.2.2.2.2.1.2.2
  have bn : Ib (s.2.1 30 0 3) 9 := by rw [g3]; exact nIb (by omega) (by decide)
  rcases hcn with ⟨rfl, hcn⟩ | ⟨rfl, hcn⟩
  · obtain rfl := Bv_1 hz hcn.1
    have g := caus_0 (X := X) h hn8 hbl hv hcn.1.1 hcn.1.2 hcn.2
    have el : lwC s (s.1 2) v db = stS (stS s 26 0 (s.2.1 30 0 3).toNatClampNeg (nI v + 16 * nI db + 8192)) 30 0 3 ((stS s 26 0 (s.2.1 30 0 3).toNatClampNeg (nI v + 16 * nI db + 8192)).2.1 30 0 3 + 1) := by
      have e1 : nI v + 16 * nI db + 8192 = nI (pkC v db 0 1) := by
        rw [show (16 : Int32) = nI 16 from rfl, show (8192 : Int32) = nI 8192 from rfl, nIm, nI_add, nI_add]
        rfl
      have e2 : (nI (s.1 2)).toNatClampNeg = s.1 2 := nI_clamp (by omega)
      rw [e1, g3, e2, stS_get, if_neg (by omega), g3, nIs]
      rfl
    rw [el] at g
    rcases hbl with rfl | rfl <;> rcases hu with rfl | rfl
    all_goals
      refine run.go [] 120 ?_
      repeat' (first | apply And.intro | (intro q; exact absurd q (by decide)) | (intro q; exact absurd (by decide) q) | (intro q; exact absurd rfl q) | intro _)
      all_goals first | (exact b3) | (exact bn) | (exact trivial) | (with_reducible exact Nat.le_refl _) | decide | (exact (rfl : (0 : Nat) = 0)) | (exact Nat.le_of_ble_eq_true rfl) | ((with_reducible show False); contradiction) | skip
      refine ⟨_, g, ?_⟩
      rintro r s2 ⟨rfl, q1, q2⟩
      have e : nI (s.1 2) = s2.2.1 30 0 3 - 1 := by rw [q2, nI_pred]
      repeat' (first | apply And.intro | (intro q; exact absurd q (by decide)) | (intro q; exact absurd (by decide) q) | (intro q; exact absurd rfl q) | (intro q; exact absurd q e) | (intro q; exact absurd e q) | intro _)
      all_goals first | (exact b3) | (exact trivial) | (with_reducible exact Nat.le_refl _) | decide | (exact (rfl : (0 : Nat) = 0)) | (exact Nat.le_of_ble_eq_true rfl) | ((with_reducible show False); contradiction) | (exact hN s2 q1)
  · rcases hz with ⟨rfl, hz⟩ | ⟨rfl, hz⟩
    · have g := caus_3 (X := X) (Rl_of h) hbl hv hz.1 hz.2 (fun w => hcn ⟨hz, w⟩)
      rcases hbl with rfl | rfl <;> rcases hu with rfl | rfl
      all_goals
        refine run.go [] 120 ?_
        repeat' (first | apply And.intro | (intro q; exact absurd q (by decide)) | (intro q; exact absurd (by decide) q) | (intro q; exact absurd rfl q) | intro _)
        all_goals first | (exact trivial) | (with_reducible exact Nat.le_refl _) | decide | (exact (rfl : (0 : Nat) = 0)) | (exact Nat.le_of_ble_eq_true rfl) | ((with_reducible show False); contradiction) | skip
        refine ⟨_, g, ?_⟩
        rintro r s2 ⟨rfl, h2⟩
        repeat' (first | apply And.intro | (intro q; exact absurd q (by decide)) | (intro q; exact absurd (by decide) q) | (intro q; exact absurd rfl q) | intro _)
        all_goals first | (exact trivial) | (with_reducible exact Nat.le_refl _) | decide | (exact (rfl : (0 : Nat) = 0)) | (exact Nat.le_of_ble_eq_true rfl) | ((with_reducible show False); contradiction) | (exact hN s2 (Rl_mono (by omega) h2))
    · have g := caus_2 (X := X) (Rl_of h) hbl hv (a := pl) (x := db) (by omega) (by omega) hz
      rcases hbl with rfl | rfl <;> rcases hu with rfl | rfl
      all_goals
        refine run.go [] 120 ?_
        repeat' (first | apply And.intro | (intro q; exact absurd q (by decide)) | (intro q; exact absurd (by decide) q) | (intro q; exact absurd rfl q) | intro _)
        all_goals first | (exact trivial) | (with_reducible exact Nat.le_refl _) | decide | (exact (rfl : (0 : Nat) = 0)) | (exact Nat.le_of_ble_eq_true rfl) | ((with_reducible show False); contradiction) | skip
        refine ⟨_, g, ?_⟩
        rintro r s2 ⟨rfl, h2⟩
        repeat' (first | apply And.intro | (intro q; exact absurd q (by decide)) | (intro q; exact absurd (by decide) q) | (intro q; exact absurd rfl q) | intro _)
        all_goals first | (exact trivial) | (with_reducible exact Nat.le_refl _) | decide | (exact (rfl : (0 : Nat) = 0)) | (exact Nat.le_of_ble_eq_true rfl) | ((with_reducible show False); contradiction) | (exact hN s2 (Rl_mono (by omega) h2))
end IsCs4

