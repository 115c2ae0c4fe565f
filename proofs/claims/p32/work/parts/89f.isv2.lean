/-! the law's isVow: grace, documents, what is read of a vow -/
section IsVs2
variable {N : Nt} {X : Xt} {Z : Kt} {s : Sg} {t a b v : Nat} {fa mo : Nat → Nat} {T : Nat → Nat → Nat}
theorem iq_cl (h : Rg t fa mo T (rows s) s) {k : Int32} : sp_L_isQuiet [aR 26 0, aR 30 0, aI k, aI (-1)] s (fun r s' => s' = s ∧ ∃ y : Int32, r = some (aI y) ∧ Bv y (∀ j, j < s.1 2 → quP s k (-1) j)) X := by
  have hn := Rg_n h
  have g3 : s.2.1 30 0 3 = nI (s.1 2) := h.1.2.2.2.2.1.2.2
  exact ⟨s.1 2, hn.2.2, g3, ⟨fun q => ⟨rfl, _, rfl, Bv_t q⟩, fun q => ⟨rfl, _, rfl, Bv_f q⟩⟩⟩
set_option maxRecDepth 100000 in
set_option maxHeartbeats 4000000 in
theorem isV_grace {one oth pl lk st la q : Nat} {yl : Int32} (run : Rn tab_L_isVow 20 N X Z) (h : Rg t fa mo T (rows s) s) (hv : v < s.1 1) (hV : Vp s v one oth pl lk st la)
    (hN : ∀ s2, Rl (t + 1) s2 → N (some (aI 1)) s2) : Z 807 0 (lVq 4 a b v 1 (nI one) (nI oth) (nI st) yl (nI q)) [] s := by
  have hn := Rg_n h
  have hb := hV.1
  obtain ⟨d, hd, hd7, hd0⟩ := h.1.2.2.2.2.2
  have hd0' : s.2.1 30 0 0 = nI d := hd0
  have zst : nI st = 0 ↔ st = 0 := n0 (by omega)
  have hvr := Vp_vR hn.1 hV
  have i1 := iq_cl (X := X) h (k := nI v)
  have qc := qu_cl h (v := v) (but := -1) (by omega) (Or.inl rfl)
  rw [qc] at i1
  have bad : ∀ y, ¬ (¬ inct s (nI v) ∧ st = 0) → Z 978 0 (lVq 4 a b v 1 (nI one) (nI oth) (nI st) yl (nI q) ++ [(19, .inl y), (20, .inl 0)]) [] s := by
    intro y hc
    have g := grace_3 (X := X) (Rl_of h) hv (by
      rintro ⟨z1, z2⟩
      rw [hV.2.1.2.2.2.2.1] at z1
      exact hc ⟨z2, zst.mp z1⟩)
    refine run.go [] 90 ?_
    repeat' (first | apply And.intro | (intro q; exact absurd q (by decide)) | (intro q; exact absurd (by decide) q) | (intro q; exact absurd rfl q) | intro _)
    all_goals first | (exact trivial) | (with_reducible exact Nat.le_refl _) | decide | (exact (rfl : (0 : Nat) = 0)) | (exact Nat.le_of_ble_eq_true rfl) | ((with_reducible show False); contradiction) | skip
    refine ⟨_, g, ?_⟩
    rintro r s2 ⟨rfl, h2⟩
    repeat' (first | apply And.intro | (intro q; exact absurd q (by decide)) | (intro q; exact absurd (by decide) q) | (intro q; exact absurd rfl q) | intro _)
    all_goals first | (exact trivial) | (with_reducible exact Nat.le_refl _) | decide | (exact (rfl : (0 : Nat) = 0)) | (exact Nat.le_of_ble_eq_true rfl) | ((with_reducible show False); contradiction) | (exact hN s2 (Rl_mono (by omega) h2))
  refine run.go [978] 120 ?_
  repeat' (first | apply And.intro | (intro q; exact absurd q (by decide)) | (intro q; exact absurd (by decide) q) | (intro q; exact absurd rfl q) | intro _)
  all_goals first | (exact trivial) | (with_reducible exact Nat.le_refl _) | decide | (exact (rfl : (0 : Nat) = 0)) | (exact Nat.le_of_ble_eq_true rfl) | ((with_reducible show False); contradiction) | skip
  refine ⟨_, i1, ?_⟩
  rintro r s' ⟨rfl, y, rfl, hy⟩
  rcases hy with ⟨rfl, hy⟩ | ⟨rfl, hy⟩
  · by_cases c3 : st = 0
    · have e3 := zst.mpr c3
      have g := grace_0 (X := X) h hv hV c3 hy hd0' hd7
      have j : Z 978 0 (lVq 4 a b v 1 (nI one) (nI oth) (nI st) yl (nI q) ++ [(19, .inl 1), (20, .inl 1)]) [] s' := by
        refine run.go [] 90 ?_
        repeat' (first | apply And.intro | (intro q; exact absurd q (by decide)) | (intro q; exact absurd (by decide) q) | (intro q; exact absurd rfl q) | intro _)
        all_goals first | (exact trivial) | (with_reducible exact Nat.le_refl _) | decide | (exact (rfl : (0 : Nat) = 0)) | (exact Nat.le_of_ble_eq_true rfl) | ((with_reducible show False); contradiction) | skip
        refine ⟨fun r s2 => r = none ∧ s2 = chV one oth pl lk st la 2 s' v, ⟨v, one, oth, pl, lk, st, la, 2, by omega, rfl, by decide, rfl, hvr, rfl, rfl⟩, ?_⟩
        rintro r s2 ⟨rfl, rfl⟩
        repeat' (first | apply And.intro | (intro q; exact absurd q (by decide)) | (intro q; exact absurd (by decide) q) | (intro q; exact absurd rfl q) | intro _)
        all_goals first | (exact trivial) | (with_reducible exact Nat.le_refl _) | decide | (exact (rfl : (0 : Nat) = 0)) | (exact Nat.le_of_ble_eq_true rfl) | ((with_reducible show False); contradiction) | skip
        refine ⟨_, g, ?_⟩
        rintro r s2 ⟨rfl, h2⟩
        repeat' (first | apply And.intro | (intro q; exact absurd q (by decide)) | (intro q; exact absurd (by decide) q) | (intro q; exact absurd rfl q) | intro _)
        all_goals first | (exact trivial) | (with_reducible exact Nat.le_refl _) | decide | (exact (rfl : (0 : Nat) = 0)) | (exact Nat.le_of_ble_eq_true rfl) | ((with_reducible show False); contradiction) | (exact hN s2 (Rl_mono (by omega) h2))
      repeat' (first | apply And.intro | (intro q; exact absurd q (by decide)) | (intro q; exact absurd (by decide) q) | (intro q; exact absurd rfl q) | (intro q; exact absurd q e3) | (intro q; exact absurd e3 q) | intro _)
      all_goals first | (exact trivial) | (with_reducible exact Nat.le_refl _) | decide | (exact (rfl : (0 : Nat) = 0)) | (exact Nat.le_of_ble_eq_true rfl) | ((with_reducible show False); contradiction) | (exact j)
    · have e3 : ¬ _ := fun w => c3 (zst.mp w)
      have j := bad 1 (fun w => c3 w.2)
      repeat' (first | apply And.intro | (intro q; exact absurd q (by decide)) | (intro q; exact absurd (by decide) q) | (intro q; exact absurd rfl q) | (intro q; exact absurd q e3) | (intro q; exact absurd e3 q) | intro _)
      all_goals first | (exact trivial) | (with_reducible exact Nat.le_refl _) | decide | (exact (rfl : (0 : Nat) = 0)) | (exact Nat.le_of_ble_eq_true rfl) | ((with_reducible show False); contradiction) | (exact j)
  · have j := bad 0 (fun w => hy w.1)
    repeat' (first | apply And.intro | (intro q; exact absurd q (by decide)) | (intro q; exact absurd (by decide) q) | (intro q; exact absurd rfl q) | intro _)
    all_goals first | (exact trivial) | (with_reducible exact Nat.le_refl _) | decide | (exact (rfl : (0 : Nat) = 0)) | (exact Nat.le_of_ble_eq_true rfl) | ((with_reducible show False); contradiction) | (exact j)
theorem st3 {st : Nat} (h : st < 4) : irm (nI st) 3 = 0 ↔ (st = 0 ∨ st = 3) := by
  rw [show irm (nI st) 3 = nI (st % 3) from irmN (d := 3) (by omega) (by decide) (by decide), n0 (by omega)]
  omega
set_option maxRecDepth 100000 in
set_option maxHeartbeats 4000000 in
theorem isV_docu {one oth pl lk st la q : Nat} {yl : Int32} (run : Rn tab_L_isVow 20 N X Z) (h : Rg t fa mo T (rows s) s) (hv : v < s.1 1) (hV : Vp s v one oth pl lk st la) (hl : Bv yl (lk = 1)) (hq : hnC s v = nI q) (hq2 : q < 32)
    (hN : ∀ s2, Rl (t + 1) s2 → N (some (aI 1)) s2) : Z 807 0 (lVq 5 a b v 1 (nI one) (nI oth) (nI st) yl (nI q)) [] s := by
  have hn := Rg_n h
  have hb := hV.1
  obtain ⟨d, hd, hd7, hd0⟩ := h.1.2.2.2.2.2
  have hd0' : s.2.1 30 0 0 = nI d := hd0
  have z3 := st3 hb.2.2.2.2.1
  have hvr := Vp_vR hn.1 hV
  have i1 := iq_cl (X := X) h (k := nI v)
  have qc := qu_cl h (v := v) (but := -1) (by omega) (Or.inl rfl)
  have mb := mbj_cl h hv hV
  rw [qc] at i1 mb
  obtain ⟨al, hal⟩ : ∃ al, al = q + 16 * lk := ⟨_, rfl⟩
  have edc : dcC s v = nI al := by
    unfold dcC
    rw [hq, hV.2.1.2.2.2.1, n0 (by omega)]
    by_cases c : lk = 0
    · rw [iteP_t c, hal, c]
      exact nI_add q 0
    · rw [iteP_f c, hal, show lk = 1 by omega]
      exact nI_add q 16
  have zal : nI al ≤ 0 ↔ al = 0 := by
    rw [show nI al ≤ 0 ↔ al ≤ 0 from nI_leI (b := 0) (by omega) (by decide)]
    omega
  have j1036 : ∀ y, Bv y (¬ inct s (nI v)) → Z 1036 0 (lVq 5 a b v 1 (nI one) (nI oth) (nI st) yl (nI q) ++ [(19, .inl y)]) [] s := by
    intro y hy
    have j1052 : Z 1052 0 (lVq 5 a b v 1 (nI one) (nI oth) (nI st) yl (nI q) ++ [(19, .inl y), (20, .inl (nI al))]) [] s := by
      have bad : ¬ ((st = 0 ∨ st = 3) ∧ ¬ inct s (nI v) ∧ 0 < al) → Z 1076 0 (lVq 5 a b v 1 (nI one) (nI oth) (nI st) yl (nI q) ++ [(19, .inl y), (20, .inl (nI al)), (21, .inl 0)]) [] s := by
        intro hc
        have g := docu_3 (X := X) (Rl_of h) hv (by
          rintro ⟨w1, w2⟩
          rw [edc, n0 (by omega)] at w1
          exact hc ⟨(mb.mp w2).1, (mb.mp w2).2, by omega⟩)
        refine run.go [] 90 ?_
        repeat' (first | apply And.intro | (intro q; exact absurd q (by decide)) | (intro q; exact absurd (by decide) q) | (intro q; exact absurd rfl q) | intro _)
        all_goals first | (exact trivial) | (with_reducible exact Nat.le_refl _) | decide | (exact (rfl : (0 : Nat) = 0)) | (exact Nat.le_of_ble_eq_true rfl) | ((with_reducible show False); contradiction) | skip
        refine ⟨_, g, ?_⟩
        rintro r s2 ⟨rfl, h2⟩
        repeat' (first | apply And.intro | (intro q; exact absurd q (by decide)) | (intro q; exact absurd (by decide) q) | (intro q; exact absurd rfl q) | intro _)
        all_goals first | (exact trivial) | (with_reducible exact Nat.le_refl _) | decide | (exact (rfl : (0 : Nat) = 0)) | (exact Nat.le_of_ble_eq_true rfl) | ((with_reducible show False); contradiction) | (exact hN s2 (Rl_mono (by omega) h2))
      rcases hy with ⟨rfl, hy⟩ | ⟨rfl, hy⟩
      · by_cases c3 : st = 0 ∨ st = 3
        · have e3 := z3.mpr c3
          by_cases c4 : al = 0
          · have e4 := zal.mpr c4
            have j := bad (fun w => by omega)
            refine run.go [1076] 90 ?_
            repeat' (first | apply And.intro | (intro q; exact absurd q (by decide)) | (intro q; exact absurd (by decide) q) | (intro q; exact absurd rfl q) | (intro q; exact absurd q e3) | (intro q; exact absurd e3 q) | (intro q; exact absurd q e4) | (intro q; exact absurd e4 q) | intro _)
            all_goals first | (exact trivial) | (with_reducible exact Nat.le_refl _) | decide | (exact (rfl : (0 : Nat) = 0)) | (exact Nat.le_of_ble_eq_true rfl) | ((with_reducible show False); contradiction) | (exact j)
          · have e4 : ¬ _ := fun w => c4 (zal.mp w)
            have g := docu_0 (X := X) h hv hV c3 hy edc (by omega) (by omega) hd0' hd7
            have j : Z 1076 0 (lVq 5 a b v 1 (nI one) (nI oth) (nI st) yl (nI q) ++ [(19, .inl 1), (20, .inl (nI al)), (21, .inl 1)]) [] s := by
              refine run.go [] 90 ?_
              repeat' (first | apply And.intro | (intro q; exact absurd q (by decide)) | (intro q; exact absurd (by decide) q) | (intro q; exact absurd rfl q) | intro _)
              all_goals first | (exact trivial) | (with_reducible exact Nat.le_refl _) | decide | (exact (rfl : (0 : Nat) = 0)) | (exact Nat.le_of_ble_eq_true rfl) | ((with_reducible show False); contradiction) | skip
              refine ⟨fun r s2 => r = none ∧ s2 = chV one oth pl lk st la 1 s v, ⟨v, one, oth, pl, lk, st, la, 1, by omega, rfl, by decide, rfl, hvr, rfl, rfl⟩, ?_⟩
              rintro r s2 ⟨rfl, rfl⟩
              repeat' (first | apply And.intro | (intro q; exact absurd q (by decide)) | (intro q; exact absurd (by decide) q) | (intro q; exact absurd rfl q) | intro _)
              all_goals first | (exact trivial) | (with_reducible exact Nat.le_refl _) | decide | (exact (rfl : (0 : Nat) = 0)) | (exact Nat.le_of_ble_eq_true rfl) | ((with_reducible show False); contradiction) | skip
              refine ⟨_, g, ?_⟩
              rintro r s2 ⟨rfl, h2⟩
              repeat' (first | apply And.intro | (intro q; exact absurd q (by decide)) | (intro q; exact absurd (by decide) q) | (intro q; exact absurd rfl q) | intro _)
              all_goals first | (exact trivial) | (with_reducible exact Nat.le_refl _) | decide | (exact (rfl : (0 : Nat) = 0)) | (exact Nat.le_of_ble_eq_true rfl) | ((with_reducible show False); contradiction) | (exact hN s2 (Rl_mono (by omega) h2))
            refine run.go [1076] 90 ?_
            repeat' (first | apply And.intro | (intro q; exact absurd q (by decide)) | (intro q; exact absurd (by decide) q) | (intro q; exact absurd rfl q) | (intro q; exact absurd q e3) | (intro q; exact absurd e3 q) | (intro q; exact absurd q e4) | (intro q; exact absurd e4 q) | intro _)
            all_goals first | (exact trivial) | (with_reducible exact Nat.le_refl _) | decide | (exact (rfl : (0 : Nat) = 0)) | (exact Nat.le_of_ble_eq_true rfl) | ((with_reducible show False); contradiction) | (exact j)
        · have e3 : ¬ _ := fun w => c3 (z3.mp w)
          have j := bad (fun w => c3 w.1)
          refine run.go [1076] 90 ?_
          repeat' (first | apply And.intro | (intro q; exact absurd q (by decide)) | (intro q; exact absurd (by decide) q) | (intro q; exact absurd rfl q) | (intro q; exact absurd q e3) | (intro q; exact absurd e3 q) | intro _)
          all_goals first | (exact trivial) | (with_reducible exact Nat.le_refl _) | decide | (exact (rfl : (0 : Nat) = 0)) | (exact Nat.le_of_ble_eq_true rfl) | ((with_reducible show False); contradiction) | (exact j)
      · have j := bad (fun w => hy w.2.1)
        refine run.go [1076] 90 ?_
        repeat' (first | apply And.intro | (intro q; exact absurd q (by decide)) | (intro q; exact absurd (by decide) q) | (intro q; exact absurd rfl q) | intro _)
        all_goals first | (exact trivial) | (with_reducible exact Nat.le_refl _) | decide | (exact (rfl : (0 : Nat) = 0)) | (exact Nat.le_of_ble_eq_true rfl) | ((with_reducible show False); contradiction) | (exact j)
    rcases hl with ⟨rfl, hl⟩ | ⟨rfl, hl⟩
    · have e : nI q + 16 = nI al := by rw [hal, hl]; exact nI_add q 16
      rw [← e] at j1052
      refine run.go [1052] 90 ?_
      repeat' (first | apply And.intro | (intro q; exact absurd q (by decide)) | (intro q; exact absurd (by decide) q) | (intro q; exact absurd rfl q) | intro _)
      all_goals first | (exact trivial) | (with_reducible exact Nat.le_refl _) | decide | (exact (rfl : (0 : Nat) = 0)) | (exact Nat.le_of_ble_eq_true rfl) | ((with_reducible show False); contradiction) | (exact j1052)
    · have e : nI q + 0 = nI al := by rw [hal, show lk = 0 by omega]; exact nI_add q 0
      rw [← e] at j1052
      refine run.go [1052] 90 ?_
      repeat' (first | apply And.intro | (intro q; exact absurd q (by decide)) | (intro q; exact absurd (by decide) q) | (intro q; exact absurd rfl q) | intro _)
      all_goals first | (exact trivial) | (with_reducible exact Nat.le_refl _) | decide | (exact (rfl : (0 : Nat) = 0)) | (exact Nat.le_of_ble_eq_true rfl) | ((with_reducible show False); contradiction) | (exact j1052)
  refine run.go [1036] 120 ?_
  repeat' (first | apply And.intro | (intro q; exact absurd q (by decide)) | (intro q; exact absurd (by decide) q) | (intro q; exact absurd rfl q) | intro _)
  all_goals first | (exact trivial) | (with_reducible exact Nat.le_refl _) | decide | (exact (rfl : (0 : Nat) = 0)) | (exact Nat.le_of_ble_eq_true rfl) | ((with_reducible show False); contradiction) | skip
  refine ⟨_, i1, ?_⟩
  rintro r s' ⟨rfl, y, rfl, hy⟩
  rcases hy with ⟨rfl, hy⟩ | ⟨rfl, hy⟩
  · have j := j1036 1 (Bv_t hy)
    repeat' (first | apply And.intro | (intro q; exact absurd q (by decide)) | (intro q; exact absurd (by decide) q) | (intro q; exact absurd rfl q) | intro _)
    all_goals first | (exact trivial) | (with_reducible exact Nat.le_refl _) | decide | (exact (rfl : (0 : Nat) = 0)) | (exact Nat.le_of_ble_eq_true rfl) | ((with_reducible show False); contradiction) | (exact j)
  · have j := j1036 0 (Bv_f hy)
    repeat' (first | apply And.intro | (intro q; exact absurd q (by decide)) | (intro q; exact absurd (by decide) q) | (intro q; exact absurd rfl q) | intro _)
    all_goals first | (exact trivial) | (with_reducible exact Nat.le_refl _) | decide | (exact (rfl : (0 : Nat) = 0)) | (exact Nat.le_of_ble_eq_true rfl) | ((with_reducible show False); contradiction) | (exact j)
set_option maxRecDepth 100000 in
set_option maxHeartbeats 4000000 in
theorem isV_670 {w : Nat} (run : Rn tab_L_isVow 20 N X Z) (h : Rg t fa mo T (rows s) s) (hw : w = 2 ∨ w = 3 ∨ w = 4 ∨ w = 5) (ha : a < 60000) (hN : ∀ s2, Rl (t + 1) s2 → N (some (aI 1)) s2) : Z 670 0 (lV w a b) [] s := by
  have hn := Rg_n h
  have b2 : Ib 2 4 := nIb (k := 2) (by decide) (by decide)
  have g2 : s.2.1 30 0 2 = nI (s.1 1) := h.1.2.2.2.2.1.2.1
  have nz : ¬ s.2.1 30 0 2 + 1 = 0 := by
    rw [g2, nIs]
    exact fun w => absurd ((n0 (by omega)).mp w) (by omega)
  obtain ⟨v, hv⟩ : ∃ v, v = a % (s.1 1 + 1) := ⟨_, rfl⟩
  have hv2 : v ≤ s.1 1 := by have := Nat.mod_lt a (show 0 < s.1 1 + 1 by omega); omega
  have ev : irm (nI a) (s.2.1 30 0 (Int32.toNatClampNeg 2) + 1) = nI v := by rw [show Int32.toNatClampNeg 2 = 2 from rfl, g2, nIs, irmN (by omega) (by omega) (by omega), hv]
  have cv : (nI v).toNatClampNeg = v := nI_clamp (by omega)
  have bv : Ib (nI v) 17 := nIb (by omega) (by decide)
  have j681 : Z 681 0 (lV w a b ++ [(12, .inl (nI v))]) [] s := by
    by_cases c : v < s.1 1
    · have h1 : ¬ s.2.1 30 0 2 ≤ nI v := by rw [g2]; exact nI_ge c (by omega)
      obtain ⟨one, oth, pl, lk, st, la, hV⟩ := Rg_v h c
      have hb := hV.1
      have hvr := Vp_vR hn.1 hV
      obtain ⟨q, hq2, hq⟩ := hnC_N hV.2.1.2.2.2.2.2 hb.2.2.2.2.2
      have i1 : sp_L_hindered [aR 24 0, aR 25 0, aI (nI v)] s (fun r s' => r = some (aI (nI q)) ∧ s' = s) X := ⟨v, by omega, rfl, by rw [hn_cl h c, hq], rfl⟩
      have e1 : irm (s.2.1 24 0 (nI v).toNatClampNeg) 16 = nI one := by rw [cv]; exact vR_one hvr
      have e2 : irm (s.2.1 24 0 (nI v).toNatClampNeg / 16) 16 = nI oth := by rw [cv]; exact vR_oth hvr
      have e3 : irm (s.2.1 24 0 (nI v).toNatClampNeg / 4096) 4 = nI st := by rw [cv]; exact vR_st hvr
      have e4 : irm (s.2.1 24 0 (nI v).toNatClampNeg / 2048) 2 = 1 ↔ lk = 1 := by rw [cv, vR_lk hvr]; exact nI_eq (b := 1) (by omega) (by decide)
      have j807 : ∀ yl, Bv yl (lk = 1) → Z 807 0 (lVq w a b v 1 (nI one) (nI oth) (nI st) yl (nI q)) [] s := by
        intro yl hl
        rcases hw with rfl | rfl | rfl | rfl
        · exact isV_heal run (Or.inl rfl) h c hV hl hq hq2 hN
        · exact isV_heal run (Or.inr rfl) h c hV hl hq hq2 hN
        · exact isV_grace run h c hV hN
        · exact isV_docu run h c hV hl hq hq2 hN
      rw [← e1, ← e2, ← e3] at j807
      by_cases cl : lk = 1
      · have e5 := e4.mpr cl
        have j := j807 1 (Bv_t cl)
        refine run.go [807] 160 ?_
        repeat' (first | apply And.intro | (intro q; exact absurd q (by decide)) | (intro q; exact absurd (by decide) q) | (intro q; exact absurd rfl q) | (intro q; exact absurd q h1) | (intro q; exact absurd h1 q) | (intro q; exact absurd q e5) | (intro q; exact absurd e5 q) | intro _)
        all_goals first | (exact b2) | (exact bv) | (exact trivial) | (with_reducible exact Nat.le_refl _) | decide | (exact (rfl : (0 : Nat) = 0)) | (exact Nat.le_of_ble_eq_true rfl) | ((with_reducible show False); contradiction) | skip
        refine ⟨_, i1, ?_⟩
        rintro r s' ⟨rfl, rfl⟩
        repeat' (first | apply And.intro | (intro q; exact absurd q (by decide)) | (intro q; exact absurd (by decide) q) | (intro q; exact absurd rfl q) | intro _)
        all_goals first | (exact trivial) | (with_reducible exact Nat.le_refl _) | decide | (exact (rfl : (0 : Nat) = 0)) | (exact Nat.le_of_ble_eq_true rfl) | ((with_reducible show False); contradiction) | (exact j)
      · have e5 : ¬ _ := fun w => cl (e4.mp w)
        have j := j807 0 (Bv_f cl)
        refine run.go [807] 160 ?_
        repeat' (first | apply And.intro | (intro q; exact absurd q (by decide)) | (intro q; exact absurd (by decide) q) | (intro q; exact absurd rfl q) | (intro q; exact absurd q h1) | (intro q; exact absurd h1 q) | (intro q; exact absurd q e5) | (intro q; exact absurd e5 q) | intro _)
        all_goals first | (exact b2) | (exact bv) | (exact trivial) | (with_reducible exact Nat.le_refl _) | decide | (exact (rfl : (0 : Nat) = 0)) | (exact Nat.le_of_ble_eq_true rfl) | ((with_reducible show False); contradiction) | skip
        refine ⟨_, i1, ?_⟩
        rintro r s' ⟨rfl, rfl⟩
        repeat' (first | apply And.intro | (intro q; exact absurd q (by decide)) | (intro q; exact absurd (by decide) q) | (intro q; exact absurd rfl q) | intro _)
        all_goals first | (exact trivial) | (with_reducible exact Nat.le_refl _) | decide | (exact (rfl : (0 : Nat) = 0)) | (exact Nat.le_of_ble_eq_true rfl) | ((with_reducible show False); contradiction) | (exact j)
    · have h1 : s.2.1 30 0 2 ≤ nI v := by rw [g2]; exact nI_le (by omega) (by omega)
      have j := isV_no (a := a) (b := b) run (Rl_of h) hw c (by omega) hN
      refine run.go [807] 160 ?_
      repeat' (first | apply And.intro | (intro q; exact absurd q (by decide)) | (intro q; exact absurd (by decide) q) | (intro q; exact absurd rfl q) | (intro q; exact absurd q h1) | (intro q; exact absurd h1 q) | intro _)
      all_goals first | (exact b2) | (exact trivial) | (with_reducible exact Nat.le_refl _) | decide | (exact (rfl : (0 : Nat) = 0)) | (exact Nat.le_of_ble_eq_true rfl) | ((with_reducible show False); contradiction) | (exact j)
  rw [← ev] at j681
  refine run.go [681] 60 ?_
  repeat' (first | apply And.intro | (intro q; exact absurd q (by decide)) | (intro q; exact absurd (by decide) q) | (intro q; exact absurd rfl q) | intro _)
  all_goals first | (exact b2) | (exact nz) | (exact trivial) | (with_reducible exact Nat.le_refl _) | decide | (exact (rfl : (0 : Nat) = 0)) | (exact Nat.le_of_ble_eq_true rfl) | ((with_reducible show False); contradiction) | (exact j681)
end IsVs2

