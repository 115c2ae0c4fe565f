/-! the law's isCause: votes' front, sentences, appeals, no such cause
-/
section IsCs3
variable {N : Nt} {X : Xt} {Z : Kt} {s : Sg} {t a b k : Nat} {fa mo : Nat → Nat} {T : Nat → Nat → Nat} {vw db st ins qa qb qd ex ey ez : Nat}
set_option maxRecDepth 100000 in
set_option maxHeartbeats 4000000 in
theorem isC_vote (run : Rn tab_L_isCause 20 N X Z) (h : Rg t fa mo T (rows s) s) (hb0 : b < 60000) (hk : k < s.1 2) (hp : Cp t s k vw db st ins qa qb qd ex ey ez) (hN : ∀ s2, Rl (t + 1) s2 → N (some (aI 1)) s2) : Z 1014 0 (lCq 4 a b k 1 (nI st)) [] s := by
  have hn := Rg_n h
  obtain ⟨pr, hpr, epr⟩ := prL_n (w := fun j => s.2.1 27 0 (7 * k + j)) (db := db) 7 (Nat.le_refl _)
  have i1 : sp_L_proven [aR 26 0, aR 27 0, aI (nI k)] s (fun r s' => r = some (aI (nI pr)) ∧ s' = s) X := ⟨k, vw, db, st, ins, by omega, rfl, Cp_cR hn.2.1 hp, by rw [epr], rfl⟩
  have j1075 : ∀ jn sn, jn < 4 → sn < 129 → Z 1075 0 (lCq 4 a b k 1 (nI st) ++ [(15, .inl (nI jn))]) [aI (nI sn)] s := by
    intro jn sn hj hs
    have hj4 : jn = 0 ∨ jn = 1 ∨ jn = 2 ∨ jn = 3 := by omega
    rcases hj4 with rfl | rfl | rfl | rfl
    · have j := isC_v1121 (a := a) (b := b) (jn := 0) (un := 1) run h hk hs hp hN (Or.inl ⟨rfl, rfl, rfl⟩)
      refine run.go [1121] 60 ?_
      repeat' (first | apply And.intro | (intro q; exact absurd q (by decide)) | (intro q; exact absurd (by decide) q) | (intro q; exact absurd rfl q) | intro _)
      all_goals first | (exact trivial) | (with_reducible exact Nat.le_refl _) | decide | (exact (rfl : (0 : Nat) = 0)) | (exact Nat.le_of_ble_eq_true rfl) | ((with_reducible show False); contradiction) | (exact j)
    · have j := isC_v1121 (a := a) (b := b) (jn := 1) (un := 129) run h hk hs hp hN (Or.inr (Or.inl ⟨rfl, rfl, rfl⟩))
      refine run.go [1121] 60 ?_
      repeat' (first | apply And.intro | (intro q; exact absurd q (by decide)) | (intro q; exact absurd (by decide) q) | (intro q; exact absurd rfl q) | intro _)
      all_goals first | (exact trivial) | (with_reducible exact Nat.le_refl _) | decide | (exact (rfl : (0 : Nat) = 0)) | (exact Nat.le_of_ble_eq_true rfl) | ((with_reducible show False); contradiction) | (exact j)
    · have j := isC_v1121 (a := a) (b := b) (jn := 2) (un := 16641) run h hk hs hp hN (Or.inr (Or.inr ⟨rfl, rfl, rfl⟩))
      refine run.go [1121] 60 ?_
      repeat' (first | apply And.intro | (intro q; exact absurd q (by decide)) | (intro q; exact absurd (by decide) q) | (intro q; exact absurd rfl q) | intro _)
      all_goals first | (exact trivial) | (with_reducible exact Nat.le_refl _) | decide | (exact (rfl : (0 : Nat) = 0)) | (exact Nat.le_of_ble_eq_true rfl) | ((with_reducible show False); contradiction) | (exact j)
    · have j := isC_vno (a := a) (b := b) (jn := 3) (y := nI st) (ar := 0) (un := 16641) run h hk hs hp hN (fun v => vote_1b (X := X) (Rl_scr (a := 28) (c := 8) (v := v) (by omega) (Rl_of h)) hk (j := 3) (by decide) (by decide)) (Or.inl ⟨rfl, rfl⟩)
      refine run.go [1177] 60 ?_
      repeat' (first | apply And.intro | (intro q; exact absurd q (by decide)) | (intro q; exact absurd (by decide) q) | (intro q; exact absurd rfl q) | intro _)
      all_goals first | (exact trivial) | (with_reducible exact Nat.le_refl _) | decide | (exact (rfl : (0 : Nat) = 0)) | (exact Nat.le_of_ble_eq_true rfl) | ((with_reducible show False); contradiction) | (exact j)
  have j1032 : ∀ jn, jn < 4 → Z 1032 0 (lCq 4 a b k 1 (nI st)) [aI (nI jn)] s := by
    intro jn hj
    have k1 := j1075 jn (b / 81 % 129) hj (by omega)
    have k2 := j1075 jn pr hj (by omega)
    have f1 : irm (nI b / 81) 129 = nI (b / 81 % 129) := by
      rw [show nI b / 81 = nI (b / 81) from divN (d := 81) (by omega) (by decide) (by decide)]
      exact irmN (d := 129) (by omega) (by decide) (by decide)
    rw [← f1] at k1
    refine run.go [1075] 60 ?_
    repeat' (first | apply And.intro | (intro q; exact absurd q (by decide)) | (intro q; exact absurd (by decide) q) | (intro q; exact absurd rfl q) | intro _)
    all_goals first | (exact trivial) | (with_reducible exact Nat.le_refl _) | decide | (exact (rfl : (0 : Nat) = 0)) | (exact Nat.le_of_ble_eq_true rfl) | ((with_reducible show False); contradiction) | (exact k1) | skip
    refine ⟨_, i1, ?_⟩
    rintro r s' ⟨rfl, rfl⟩
    repeat' (first | apply And.intro | (intro q; exact absurd q (by decide)) | (intro q; exact absurd (by decide) q) | (intro q; exact absurd rfl q) | intro _)
    all_goals first | (exact trivial) | (with_reducible exact Nat.le_refl _) | decide | (exact (rfl : (0 : Nat) = 0)) | (exact Nat.le_of_ble_eq_true rfl) | ((with_reducible show False); contradiction) | (exact k2)
  have k1 := j1032 3 (by decide)
  have k2 := j1032 (b % 3) (by omega)
  have f2 : irm (nI b) 3 = nI (b % 3) := irmN (d := 3) (by omega) (by decide) (by decide)
  rw [show nI 3 = (3 : Int32) from by decide] at k1
  rw [← f2] at k2
  refine run.go [1032] 60 ?_
  repeat' (first | apply And.intro | (intro q; exact absurd q (by decide)) | (intro q; exact absurd (by decide) q) | (intro q; exact absurd rfl q) | intro _)
  all_goals first | (exact trivial) | (with_reducible exact Nat.le_refl _) | decide | (exact (rfl : (0 : Nat) = 0)) | (exact Nat.le_of_ble_eq_true rfl) | ((with_reducible show False); contradiction) | (exact k1) | (exact k2)
set_option maxRecDepth 100000 in
set_option maxHeartbeats 4000000 in
theorem isC_sent (run : Rn tab_L_isCause 20 N X Z) (h : Rg t fa mo T (rows s) s) (hk : k < s.1 2) (hp : Cp t s k vw db st ins qa qb qd ex ey ez) (hN : ∀ s2, Rl (t + 1) s2 → N (some (aI 1)) s2) : Z 1329 0 (lCq 5 a b k 1 (nI st)) [] s := by
  have hn := Rg_n h
  have hb := hp.1
  have hb2 := hp.2.1
  have ck : (nI k).toNatClampNeg = k := nI_clamp (by omega)
  have bk : Ib (nI k) 9 := nIb (by omega) (by decide)
  obtain ⟨y1, y2, y3, y4, y5⟩ := Cp_n hp
  obtain ⟨dy, hdy, hd7, hd0⟩ := h.1.2.2.2.2.2
  have hd0' : s.2.1 30 0 0 = nI dy := hd0
  have e28 : s.2.1 28 0 k = nI (pk3 qa qb qd) := hp.2.2.2.2.2.1
  have l0 : nI st = 1 ↔ st = 1 := nI_eq (b := 1) (by omega) (by decide)
  have le0 : ∀ v : Nat, v < 129 → (nI v ≤ 0 ↔ v = 0) := fun v hv => by
    rw [show nI v ≤ 0 ↔ v ≤ 0 from nI_leI (b := 0) (by omega) (by decide)]
    omega
  have l1 : irm (s.2.1 28 0 (nI k).toNatClampNeg) 129 ≤ 0 ↔ qa = 0 := by rw [ck, e28, pk3_a hb2.1 hb2.2.1 hb2.2.2.1]; exact le0 _ hb2.1
  have l2 : irm (s.2.1 28 0 (nI k).toNatClampNeg / 129) 129 ≤ 0 ↔ qb = 0 := by rw [ck, e28, pk3_b hb2.1 hb2.2.1 hb2.2.2.1]; exact le0 _ hb2.2.1
  have l3 : s.2.1 28 0 (nI k).toNatClampNeg / 16641 ≤ 0 ↔ qd = 0 := by rw [ck, e28, pk3_c hb2.1 hb2.2.1 hb2.2.2.1]; exact le0 _ hb2.2.2.1
  have hvc := vcC_N hb2.1 hb2.2.1 hb2.2.2.1 hp.2.2.2.2.1
  have bad : ¬ (st = 1 ∧ 0 < qa ∧ 0 < qb ∧ 0 < qd) → Z 1385 0 (lCq 5 a b k 1 (nI st)) [aI 0] s := by
    intro hc
    have g := sent_3 (X := X) (Rl_of h) hk (by
      rintro ⟨w1, w2⟩
      rw [hvc] at w2
      have w3 : vcN qa qb qd = 3 := (nI_eq (b := 3) (by unfold vcN; (repeat' split) <;> omega) (by decide)).mp w2
      refine hc ⟨y3.mp w1, ?_⟩
      unfold vcN at w3
      by_cases z1 : qa = 0 <;> by_cases z2 : qb = 0 <;> by_cases z3 : qd = 0 <;> simp [z1, z2, z3] at w3 <;> omega)
    refine run.go [] 60 ?_
    repeat' (first | apply And.intro | (intro q; exact absurd q (by decide)) | (intro q; exact absurd (by decide) q) | (intro q; exact absurd rfl q) | intro _)
    all_goals first | (exact trivial) | (with_reducible exact Nat.le_refl _) | decide | (exact (rfl : (0 : Nat) = 0)) | (exact Nat.le_of_ble_eq_true rfl) | ((with_reducible show False); contradiction) | skip
    refine ⟨_, g, ?_⟩
    rintro r s2 ⟨rfl, h2⟩
    repeat' (first | apply And.intro | (intro q; exact absurd q (by decide)) | (intro q; exact absurd (by decide) q) | (intro q; exact absurd rfl q) | intro _)
    all_goals first | (exact trivial) | (with_reducible exact Nat.le_refl _) | decide | (exact (rfl : (0 : Nat) = 0)) | (exact Nat.le_of_ble_eq_true rfl) | ((with_reducible show False); contradiction) | (exact hN s2 (Rl_mono (by omega) h2))
  by_cases c0 : st = 1
  · have e0 := l0.mpr c0
    by_cases c1 : qa = 0
    · have e1 := l1.mpr c1
      have j := bad (by omega)
      refine run.go [1385] 60 ?_
      repeat' (first | apply And.intro | (intro q; exact absurd q (by decide)) | (intro q; exact absurd (by decide) q) | (intro q; exact absurd rfl q) | (intro q; exact absurd q e0) | (intro q; exact absurd e0 q) | (intro q; exact absurd q e1) | (intro q; exact absurd e1 q) | intro _)
      all_goals first | (exact bk) | (exact trivial) | (with_reducible exact Nat.le_refl _) | decide | (exact (rfl : (0 : Nat) = 0)) | (exact Nat.le_of_ble_eq_true rfl) | ((with_reducible show False); contradiction) | (exact j)
    · have e1 : ¬ _ := fun w => c1 (l1.mp w)
      by_cases c2 : qb = 0
      · have e2 := l2.mpr c2
        have j := bad (by omega)
        refine run.go [1385] 60 ?_
        repeat' (first | apply And.intro | (intro q; exact absurd q (by decide)) | (intro q; exact absurd (by decide) q) | (intro q; exact absurd rfl q) | (intro q; exact absurd q e0) | (intro q; exact absurd e0 q) | (intro q; exact absurd q e1) | (intro q; exact absurd e1 q) | (intro q; exact absurd q e2) | (intro q; exact absurd e2 q) | intro _)
        all_goals first | (exact bk) | (exact trivial) | (with_reducible exact Nat.le_refl _) | decide | (exact (rfl : (0 : Nat) = 0)) | (exact Nat.le_of_ble_eq_true rfl) | ((with_reducible show False); contradiction) | (exact j)
      · have e2 : ¬ _ := fun w => c2 (l2.mp w)
        by_cases c3 : qd = 0
        · have e3 := l3.mpr c3
          have j := bad (by omega)
          refine run.go [1385] 60 ?_
          repeat' (first | apply And.intro | (intro q; exact absurd q (by decide)) | (intro q; exact absurd (by decide) q) | (intro q; exact absurd rfl q) | (intro q; exact absurd q e0) | (intro q; exact absurd e0 q) | (intro q; exact absurd q e1) | (intro q; exact absurd e1 q) | (intro q; exact absurd q e2) | (intro q; exact absurd e2 q) | (intro q; exact absurd q e3) | (intro q; exact absurd e3 q) | intro _)
          all_goals first | (exact bk) | (exact trivial) | (with_reducible exact Nat.le_refl _) | decide | (exact (rfl : (0 : Nat) = 0)) | (exact Nat.le_of_ble_eq_true rfl) | ((with_reducible show False); contradiction) | (exact j)
        · have e3 : ¬ _ := fun w => c3 (l3.mp w)
          obtain ⟨A, rfl⟩ : ∃ A, qa = A + 1 := ⟨qa - 1, by omega⟩
          obtain ⟨B, rfl⟩ : ∃ B, qb = B + 1 := ⟨qb - 1, by omega⟩
          obtain ⟨D, rfl⟩ : ∃ D, qd = D + 1 := ⟨qd - 1, by omega⟩
          obtain ⟨one, oth, pl, lk, vs, la, hV⟩ := Rg_v h hb.1
          have hvr := Vp_vR hn.1 hV
          have hc := Cp_cR hn.2.1 hp
          have hm : majL A B D 7 < 128 := majL_lt 7 (by decide)
          have g := sent_0 (X := X) h hk hp c0
          have q11 := hp.2.2.2.2.2.2.2.2.2.1 (by omega)
          have fin := sent_fin h hk hp c0 hm hV hd0' hd7
          refine run.go [] 120 ?_
          repeat' (first | apply And.intro | (intro q; exact absurd q (by decide)) | (intro q; exact absurd (by decide) q) | (intro q; exact absurd rfl q) | (intro q; exact absurd q e0) | (intro q; exact absurd e0 q) | (intro q; exact absurd q e1) | (intro q; exact absurd e1 q) | (intro q; exact absurd q e2) | (intro q; exact absurd e2 q) | (intro q; exact absurd q e3) | (intro q; exact absurd e3 q) | intro _)
          all_goals first | (exact bk) | (exact trivial) | (with_reducible exact Nat.le_refl _) | decide | (exact (rfl : (0 : Nat) = 0)) | (exact Nat.le_of_ble_eq_true rfl) | ((with_reducible show False); contradiction) | skip
          refine ⟨_, g, ?_⟩
          rintro r s2 ⟨rfl, hs2⟩
          have lr : ∀ x c, 20 ≤ x → s2.2.1 x 0 c = s.2.1 x 0 c := fun x c hx => by rw [hs2]; exact coC_l hx
          rw [← hs2] at fin
          have i1 : sp_L_sentence [aR 24 0, aR 25 0, aR 26 0, aR 28 0, aR 29 0, aR 30 0, aI (nI k)] s2 (fun r s' => r = some (aI (nI (majL A B D 7))) ∧ Rl (t + 1) s') X :=
            ⟨k, vw, db, st, ins, A, B, D, ex, ey, ez, one, oth, pl, lk, vs, la, by omega, rfl, ⟨hc.1, (lr _ _ (by decide)).trans hc.2⟩, ⟨by omega, by omega, by omega⟩, (lr _ _ (by decide)).trans e28, ⟨hb2.2.2.2.1, hb2.2.2.2.2.1, hb2.2.2.2.2.2⟩, (lr _ _ (by decide)).trans hp.2.2.2.2.2.2.2.1, by omega, ⟨hvr.1, (lr _ _ (by decide)).trans hvr.2⟩, rfl, fin⟩
          repeat' (first | apply And.intro | (intro q; exact absurd q (by decide)) | (intro q; exact absurd (by decide) q) | (intro q; exact absurd rfl q) | intro _)
          all_goals first | (exact trivial) | (with_reducible exact Nat.le_refl _) | decide | (exact (rfl : (0 : Nat) = 0)) | (exact Nat.le_of_ble_eq_true rfl) | ((with_reducible show False); contradiction) | skip
          refine ⟨_, i1, ?_⟩
          rintro r s3 ⟨rfl, q1⟩
          repeat' (first | apply And.intro | (intro q; exact absurd q (by decide)) | (intro q; exact absurd (by decide) q) | (intro q; exact absurd rfl q) | intro _)
          all_goals first | (exact trivial) | (with_reducible exact Nat.le_refl _) | decide | (exact (rfl : (0 : Nat) = 0)) | (exact Nat.le_of_ble_eq_true rfl) | ((with_reducible show False); contradiction) | (exact hN _ q1)
  · have e0 : ¬ _ := fun w => c0 (l0.mp w)
    have j := bad (by omega)
    refine run.go [1385] 60 ?_
    repeat' (first | apply And.intro | (intro q; exact absurd q (by decide)) | (intro q; exact absurd (by decide) q) | (intro q; exact absurd rfl q) | (intro q; exact absurd q e0) | (intro q; exact absurd e0 q) | intro _)
    all_goals first | (exact trivial) | (with_reducible exact Nat.le_refl _) | decide | (exact (rfl : (0 : Nat) = 0)) | (exact Nat.le_of_ble_eq_true rfl) | ((with_reducible show False); contradiction) | (exact j)
set_option maxRecDepth 100000 in
set_option maxHeartbeats 4000000 in
theorem isC_appe (run : Rn tab_L_isCause 20 N X Z) (h : Rg t fa mo T (rows s) s) (hk : k < s.1 2) (hp : Cp t s k vw db st ins qa qb qd ex ey ez) (hN : ∀ s2, Rl (t + 1) s2 → N (some (aI 1)) s2) : Z 1442 0 (lCq 6 a b k 1 (nI st)) [] s := by
  have hn := Rg_n h
  have hb := hp.1
  have ck : (nI k).toNatClampNeg = k := nI_clamp (by omega)
  have bk : Ib (nI k) 9 := nIb (by omega) (by decide)
  have hc := Cp_cR hn.2.1 hp
  obtain ⟨y1, y2, y3, y4, y5⟩ := Cp_n hp
  obtain ⟨one, oth, pl, lk, vs, la, hV⟩ := Rg_v h hb.1
  have hvr := Vp_vR hn.1 hV
  have l0 : nI st = 3 ↔ st = 3 := nI_eq (b := 3) (by omega) (by decide)
  have l1 : s.2.1 26 0 (nI k).toNatClampNeg / 8192 = 1 ↔ ins = 1 := by rw [ck, cR_in hc]; exact nI_eq (b := 1) (by omega) (by decide)
  have ev : irm (s.2.1 26 0 (nI k).toNatClampNeg) 16 = nI vw := by rw [ck]; exact cR_vw hc
  have cvw : (nI vw).toNatClampNeg = vw := nI_clamp (by omega)
  have bvw : Ib (irm (s.2.1 26 0 (nI k).toNatClampNeg) 16) 17 := by rw [ev]; exact nIb (by omega) (by decide)
  have l2 : irm (irm (s.2.1 24 0 (irm (s.2.1 26 0 (nI k).toNatClampNeg) 16).toNatClampNeg / 4096) 4) 3 = 0 ↔ (vs = 0 ∨ vs = 3) := by rw [ev, cvw, vR_st hvr]; exact st3 hV.1.2.2.2.2.1
  have mb := mbj_cl h hb.1 hV
  rw [qu_cl h (v := vw) (but := -1) (by omega) (Or.inl rfl)] at mb
  have bad : ¬ ((st = 3 ∧ ins = 1) ∧ mbj s (nI vw)) → Z 1512 0 (lCq 6 a b k 1 (nI st)) [aI 0] s := by
    intro hcc
    have g := appe_3 (X := X) (Rl_of h) hk (by
      rintro ⟨⟨w1, w2⟩, w3⟩
      rw [hp.2.2.1.1] at w3
      exact hcc ⟨⟨y4.mp w1, y5.mp w2⟩, w3⟩)
    refine run.go [] 60 ?_
    repeat' (first | apply And.intro | (intro q; exact absurd q (by decide)) | (intro q; exact absurd (by decide) q) | (intro q; exact absurd rfl q) | intro _)
    all_goals first | (exact trivial) | (with_reducible exact Nat.le_refl _) | decide | (exact (rfl : (0 : Nat) = 0)) | (exact Nat.le_of_ble_eq_true rfl) | ((with_reducible show False); contradiction) | skip
    refine ⟨_, g, ?_⟩
    rintro r s2 ⟨rfl, h2⟩
    repeat' (first | apply And.intro | (intro q; exact absurd q (by decide)) | (intro q; exact absurd (by decide) q) | (intro q; exact absurd rfl q) | intro _)
    all_goals first | (exact trivial) | (with_reducible exact Nat.le_refl _) | decide | (exact (rfl : (0 : Nat) = 0)) | (exact Nat.le_of_ble_eq_true rfl) | ((with_reducible show False); contradiction) | (exact hN s2 (Rl_mono (by omega) h2))
  by_cases c0 : st = 3
  · have e0 := l0.mpr c0
    by_cases c1 : ins = 1
    · have e1 := l1.mpr c1
      by_cases c2 : vs = 0 ∨ vs = 3
      · have e2 := l2.mpr c2
        have g3 : s.2.1 30 0 3 = nI (s.1 2) := h.1.2.2.2.2.1.2.2
        have i1 : sp_L_isQuiet [aR 26 0, aR 30 0, aI (irm (s.2.1 26 0 (nI k).toNatClampNeg) 16), aI (nI k)] s (fun r s' => s' = s ∧ ∃ y : Int32, r = some (aI y) ∧ Bv y (¬ inct s (nI vw))) X := by
          rw [ev]
          exact ⟨s.1 2, hn.2.2, g3, by rw [qu_cl h (v := vw) (but := nI k) (by omega) (Or.inr ⟨k, hk, rfl, y4.mpr c0⟩)]; exact ⟨fun q => ⟨rfl, _, rfl, Bv_t q⟩, fun q => ⟨rfl, _, rfl, Bv_f q⟩⟩⟩
        refine run.go [1512] 120 ?_
        repeat' (first | apply And.intro | (intro q; exact absurd q (by decide)) | (intro q; exact absurd (by decide) q) | (intro q; exact absurd rfl q) | (intro q; exact absurd q e0) | (intro q; exact absurd e0 q) | (intro q; exact absurd q e1) | (intro q; exact absurd e1 q) | (intro q; exact absurd q e2) | (intro q; exact absurd e2 q) | intro _)
        all_goals first | (exact bk) | (exact bvw) | (exact trivial) | (with_reducible exact Nat.le_refl _) | decide | (exact (rfl : (0 : Nat) = 0)) | (exact Nat.le_of_ble_eq_true rfl) | ((with_reducible show False); contradiction) | skip
        refine ⟨_, i1, ?_⟩
        rintro r s' ⟨rfl, y, rfl, hy⟩
        rcases hy with ⟨rfl, hy⟩ | ⟨rfl, hy⟩
        · have g := appe_0 (X := X) h hk hp c0 c1 (mb.mpr ⟨c2, hy⟩)
          have eu : irm (s'.2.1 26 0 k) 2048 + 16384 = nI (pkC vw db 0 2) := by
            rw [hp.2.2.2.1, show irm (nI (pkC vw db st ins)) 2048 = nI (pkC vw db st ins % 2048) from irmN (d := 2048) (by unfold pkC; omega) (by decide) (by decide), show (16384 : Int32) = nI 16384 from rfl, nI_add]
            congr 1
            unfold pkC
            omega
          have g2 : sp_L_does [aR 1 0, aI 19, aI (nI k), aI 0, aI 0, aI 0] (stS (stS s' 26 0 (nI k).toNatClampNeg (irm (s'.2.1 26 0 (nI k).toNatClampNeg) 2048 + 16384)) 28 0 (nI k).toNatClampNeg 0) (Dn 0 (t + 1)) X := by rw [ck, eu]; exact g
          have j : Z 1512 0 (lCq 6 a b k 1 (nI st)) [aI 1] s' := by
            refine run.go [] 60 ?_
            repeat' (first | apply And.intro | (intro q; exact absurd q (by decide)) | (intro q; exact absurd (by decide) q) | (intro q; exact absurd rfl q) | intro _)
            all_goals first | (exact bk) | (exact trivial) | (with_reducible exact Nat.le_refl _) | decide | (exact (rfl : (0 : Nat) = 0)) | (exact Nat.le_of_ble_eq_true rfl) | ((with_reducible show False); contradiction) | skip
            refine ⟨_, g2, ?_⟩
            rintro r s2 ⟨rfl, h2⟩
            repeat' (first | apply And.intro | (intro q; exact absurd q (by decide)) | (intro q; exact absurd (by decide) q) | (intro q; exact absurd rfl q) | intro _)
            all_goals first | (exact trivial) | (with_reducible exact Nat.le_refl _) | decide | (exact (rfl : (0 : Nat) = 0)) | (exact Nat.le_of_ble_eq_true rfl) | ((with_reducible show False); contradiction) | (exact hN s2 (Rl_mono (by omega) h2))
          repeat' (first | apply And.intro | (intro q; exact absurd q (by decide)) | (intro q; exact absurd (by decide) q) | (intro q; exact absurd rfl q) | intro _)
          all_goals first | (exact trivial) | (with_reducible exact Nat.le_refl _) | decide | (exact (rfl : (0 : Nat) = 0)) | (exact Nat.le_of_ble_eq_true rfl) | ((with_reducible show False); contradiction) | (exact j)
        · have j := bad (fun w => hy (mb.mp w.2).2)
          repeat' (first | apply And.intro | (intro q; exact absurd q (by decide)) | (intro q; exact absurd (by decide) q) | (intro q; exact absurd rfl q) | intro _)
          all_goals first | (exact trivial) | (with_reducible exact Nat.le_refl _) | decide | (exact (rfl : (0 : Nat) = 0)) | (exact Nat.le_of_ble_eq_true rfl) | ((with_reducible show False); contradiction) | (exact j)
      · have e2 : ¬ _ := fun w => c2 (l2.mp w)
        have j := bad (fun w => c2 (mb.mp w.2).1)
        refine run.go [1512] 120 ?_
        repeat' (first | apply And.intro | (intro q; exact absurd q (by decide)) | (intro q; exact absurd (by decide) q) | (intro q; exact absurd rfl q) | (intro q; exact absurd q e0) | (intro q; exact absurd e0 q) | (intro q; exact absurd q e1) | (intro q; exact absurd e1 q) | (intro q; exact absurd q e2) | (intro q; exact absurd e2 q) | intro _)
        all_goals first | (exact bk) | (exact bvw) | (exact trivial) | (with_reducible exact Nat.le_refl _) | decide | (exact (rfl : (0 : Nat) = 0)) | (exact Nat.le_of_ble_eq_true rfl) | ((with_reducible show False); contradiction) | (exact j)
    · have e1 : ¬ _ := fun w => c1 (l1.mp w)
      have j := bad (fun w => c1 w.1.2)
      refine run.go [1512] 120 ?_
      repeat' (first | apply And.intro | (intro q; exact absurd q (by decide)) | (intro q; exact absurd (by decide) q) | (intro q; exact absurd rfl q) | (intro q; exact absurd q e0) | (intro q; exact absurd e0 q) | (intro q; exact absurd q e1) | (intro q; exact absurd e1 q) | intro _)
      all_goals first | (exact bk) | (exact trivial) | (with_reducible exact Nat.le_refl _) | decide | (exact (rfl : (0 : Nat) = 0)) | (exact Nat.le_of_ble_eq_true rfl) | ((with_reducible show False); contradiction) | (exact j)
  · have e0 : ¬ _ := fun w => c0 (l0.mp w)
    have j := bad (fun w => c0 w.1.1)
    refine run.go [1512] 120 ?_
    repeat' (first | apply And.intro | (intro q; exact absurd q (by decide)) | (intro q; exact absurd (by decide) q) | (intro q; exact absurd rfl q) | (intro q; exact absurd q e0) | (intro q; exact absurd e0 q) | intro _)
    all_goals first | (exact trivial) | (with_reducible exact Nat.le_refl _) | decide | (exact (rfl : (0 : Nat) = 0)) | (exact Nat.le_of_ble_eq_true rfl) | ((with_reducible show False); contradiction) | (exact j)
end IsCs3

