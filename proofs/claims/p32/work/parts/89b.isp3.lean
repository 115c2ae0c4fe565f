/-! the law's isPerson: death -/
section IsPs3
variable {N : Nt} {X : Xt} {Z : Kt} {s : Sg} {t a b p : Nat} {x : Int32}
theorem Vp_u {k one oth pl lk st la one' oth' pl' lk' st' la' : Nat} (hn : s.1 0 ≤ 16) (h : Vp s k one oth pl lk st la) (h' : Vp s k one' oth' pl' lk' st' la') : one = one' ∧ oth = oth' ∧ pl = pl' ∧ lk = lk' ∧ st = st' ∧ la = la' := by
  have b1 := h.1
  have b2 := h'.1
  obtain ⟨q1, q2, q3, q4, q5, q6⟩ := h.2.1
  obtain ⟨r1, r2, r3, r4, r5, r6⟩ := h'.2.1
  exact ⟨(nI_eq (by omega) (by omega)).mp (q1.symm.trans r1), (nI_eq (by omega) (by omega)).mp (q2.symm.trans r2), (nI_eq (by omega) (by omega)).mp (q3.symm.trans r3), (nI_eq (by omega) (by omega)).mp (q4.symm.trans r4), (nI_eq (by omega) (by omega)).mp (q5.symm.trans r5), (nI_eq (by omega) (by omega)).mp (q6.symm.trans r6)⟩
/-- while the vows of the dead end: s before, z now, the first k vows seen, n of them ended -/
def dI (s : Sg) (p d v20 k n : Nat) (z : Sg) : Prop := z.1 = s.1 ∧ (∀ a b c, ¬ (a = 20 ∧ b = 0 ∧ c = p) → ¬ (a = 24 ∧ b = 0) → ¬ (a = 25 ∧ b = 0) → z.2.1 a b c = s.2.1 a b c) ∧ z.2.1 20 0 p = nI v20 ∧ cntE (fun v => evE s v (nI p)) k n ∧
  ∀ v, v < s.1 1 → z.2.1 25 0 v = s.2.1 25 0 v ∧ (v < k → (evE s v (nI p) → z.2.1 25 0 (16 + v) = nI d ∧ ∀ one oth pl lk st la, Vp s v one oth pl lk st la → z.2.1 24 0 v = nI (pkV one oth pl lk 3 la)) ∧ (¬ evE s v (nI p) → z.2.1 25 0 (16 + v) = s.2.1 25 0 (16 + v) ∧ z.2.1 24 0 v = s.2.1 24 0 v)) ∧
    (k ≤ v → z.2.1 25 0 (16 + v) = s.2.1 25 0 (16 + v) ∧ z.2.1 24 0 v = s.2.1 24 0 v)
theorem dI_no {p d v20 k n : Nat} {z : Sg} (h : dI s p d v20 k n z) (hk : k < s.1 1) (he : ¬ evE s k (nI p)) : dI s p d v20 (k + 1) n z := by
  obtain ⟨h1, h2, h3, h4, h5⟩ := h
  refine ⟨h1, h2, h3, Or.inr ⟨he, h4⟩, fun v hv => ?_⟩
  obtain ⟨g1, g2, g3⟩ := h5 v hv
  refine ⟨g1, fun hv2 => ?_, fun hv2 => g3 (by omega)⟩
  by_cases e : v = k
  · subst e
    exact ⟨fun w => absurd w he, fun _ => g3 (Nat.le_refl _)⟩
  · exact g2 (by omega)
theorem dI_yes {p d v20 k n one oth pl lk st la : Nat} {z : Sg} (hn : s.1 0 ≤ 16 ∧ s.1 1 ≤ 16 ∧ s.1 2 ≤ 8) (h : dI s p d v20 k n z) (hk : k < s.1 1) (he : evE s k (nI p)) (hv : Vp s k one oth pl lk st la) (hd : z.2.1 30 0 0 = nI d) : dI s p d v20 (k + 1) (n + 1) (chV one oth pl lk st la 3 z k) := by
  obtain ⟨h1, h2, h3, h4, h5⟩ := h
  have o : ∀ a b c, ¬ (a = 24 ∧ b = 0 ∧ c = k) → ¬ (a = 25 ∧ b = 0 ∧ c = 16 + k) → (chV one oth pl lk st la 3 z k).2.1 a b c = z.2.1 a b c := fun a b c e1 e2 => by
    unfold chV
    rw [stS_get, if_neg e2, stS_get, if_neg e1]
  refine ⟨h1, fun a b c e1 e2 e3 => (o a b c (by omega) (by omega)).trans (h2 a b c e1 e2 e3), (o _ _ _ (by omega) (by omega)).trans h3, Or.inl ⟨he, n, h4, rfl⟩, fun v hv' => ?_⟩
  obtain ⟨g1, g2, g3⟩ := h5 v hv'
  refine ⟨(o _ _ _ (by omega) (by omega)).trans g1, fun hv2 => ?_, fun hv2 => ?_⟩
  · by_cases e : v = k
    · subst e
      refine ⟨fun _ => ⟨?_, fun one' oth' pl' lk' st' la' hv2 => ?_⟩, fun w => absurd he w⟩
      · unfold chV
        rw [stS_get, if_pos ⟨rfl, rfl, rfl⟩]
        exact hd
      · obtain ⟨rfl, rfl, rfl, rfl, rfl, rfl⟩ := Vp_u hn.1 hv hv2
        unfold chV
        rw [stS_get, if_neg (by omega), stS_get, if_pos ⟨rfl, rfl, rfl⟩]
    · obtain ⟨m1, m2⟩ := g2 (by omega)
      rw [o 25 0 (16 + v) (by omega) (by omega), o 24 0 v (by omega) (by omega)]
      exact ⟨m1, m2⟩
  · rw [o 25 0 (16 + v) (by omega) (by omega), o 24 0 v (by omega) (by omega)]
    exact g3 (by omega)
set_option maxRecDepth 100000 in
set_option maxHeartbeats 4000000 in
theorem isP_die (run : Rn tab_L_isPerson 20 N X Z) (ht : t < 64) (hR : Rl t s) (hp : p ≤ s.1 0) (hx : Bv x (p < s.1 0)) (hN : ∀ s2, Rl (t + 1) s2 → N (some (aI 1)) s2) : Z 695 0 (lPp 4 a b p x) [] s := by
  have hn := Rl_n hR
  have cp : (nI p).toNatClampNeg = p := nI_clamp (by omega)
  have b20 : Ib (nI p) 17 := nIb (by omega) (by decide)
  have b16 : Ib 16 17 := nIb (k := 16) (by decide) (by decide)
  have b2 : Ib 2 4 := nIb (k := 2) (by decide) (by decide)
  by_cases hp2 : p < s.1 0
  · obtain rfl := Bv_1 hx hp2
    obtain ⟨fa, mo, T, h⟩ := hR
    obtain ⟨ho, ri, od, ba, li, hP⟩ := Rg_p h hp2
    obtain ⟨f1, f2⟩ := Rg_fm h hp2
    have hb9 := hP.1
    have hpr := Pp_pR hP (by omega) (by omega)
    have ede := pR_de hpr
    obtain ⟨d, hd, hd7, hd0⟩ := h.1.2.2.2.2.2
    have hd0' : s.2.1 30 0 0 = nI d := hd0
    by_cases hc : li = 1
    · subst hc
      have e1 : irm (s.2.1 20 0 (nI p).toNatClampNeg / 64) 2 = 0 := by rw [cp]; exact ede
      have eu : s.2.1 20 0 p + 64 = nI (pkP ho ri ba 1 (fa p) (mo p)) := by
        rw [hP.2.2.1, show (64 : Int32) = nI 64 from rfl, nI_add]
        congr 1
        unfold pkP
        omega
      have g2' : s.2.1 30 0 2 = nI (s.1 1) := h.1.2.2.2.2.1.2.1
      have lp := loop_up (n := s.1 1) (P := fun k => ∀ n z, n ≤ k → dI s p d (pkP ho ri ba 1 (fa p) (mo p)) k n z → Z 750 0 (lPp 4 a b p 1 ++ [(12, .inl 1), (13, .inl (nI n)), (14, .inl (nI k))]) [] z) ?_ ?_ 0 (Nat.zero_le _)
      · have lp := lp 0 (stS s 20 0 p (nI (pkP ho ri ba 1 (fa p) (mo p)))) (Nat.le_refl _) ⟨rfl, fun a b c w _ _ => by rw [stS_get, if_neg w], by rw [stS_get, if_pos ⟨rfl, rfl, rfl⟩], rfl, fun v hv => ⟨rfl, fun w => absurd w (Nat.not_lt_zero _), fun _ => ⟨rfl, rfl⟩⟩⟩
        refine run.go [750] 80 ?_
        repeat' (first | apply And.intro | (intro q; exact absurd q (by decide)) | (intro q; exact absurd (by decide) q) | (intro q; exact absurd rfl q) | (intro q; exact absurd q e1) | (intro q; exact absurd e1 q) | intro _)
        all_goals first | (exact b20) | (exact trivial) | (with_reducible exact Nat.le_refl _) | decide | (exact (rfl : (0 : Nat) = 0)) | (exact Nat.le_of_ble_eq_true rfl) | ((with_reducible show False); contradiction) | skip
        (try dsimp only)
        rw [cp, eu]
        exact lp
      · intro n z hnk ⟨z1, z2, z3, z4, z5⟩
        have g := die_0 (X := X) h hp2 rfl hP hd7 z1 z2 z3 z4 (fun v hv => ⟨(z5 v hv).1, (z5 v hv).2.1 hv⟩)
        have hle : z.2.1 30 0 2 ≤ nI (s.1 1) := by rw [z2 30 0 2 (by omega) (by omega) (by omega), g2']; exact nI_le (Nat.le_refl _) (by omega)
        refine run.go [] 80 ?_
        repeat' (first | apply And.intro | (intro q; exact absurd q (by decide)) | (intro q; exact absurd (by decide) q) | (intro q; exact absurd rfl q) | (intro q; exact absurd q hle) | (intro q; exact absurd hle q) | intro _)
        all_goals first | (exact b2) | (exact trivial) | (with_reducible exact Nat.le_refl _) | decide | (exact (rfl : (0 : Nat) = 0)) | (exact Nat.le_of_ble_eq_true rfl) | ((with_reducible show False); contradiction) | skip
        refine ⟨_, g, ?_⟩
        rintro r s2 ⟨rfl, h2⟩
        repeat' (first | apply And.intro | (intro q; exact absurd q (by decide)) | (intro q; exact absurd (by decide) q) | (intro q; exact absurd rfl q) | intro _)
        all_goals first | (exact trivial) | (with_reducible exact Nat.le_refl _) | decide | (exact (rfl : (0 : Nat) = 0)) | (exact Nat.le_of_ble_eq_true rfl) | ((with_reducible show False); contradiction) | (exact hN s2 (Rl_mono (by omega) h2))
      · intro k hk ih n z hnk hz
        have ck : (nI k).toNatClampNeg = k := nI_clamp (by omega)
        have bk : Ib (nI k) 17 := nIb (by omega) (by decide)
        obtain ⟨z1, z2, z3, z4, z5⟩ := id hz
        have hle : ¬ z.2.1 30 0 2 ≤ nI k := by rw [z2 30 0 2 (by omega) (by omega) (by omega), g2']; exact nI_ge hk (by omega)
        obtain ⟨one, oth, pl, lk, st, la, hV⟩ := Rg_v h hk
        have hvb := hV.1
        have e24 : z.2.1 24 0 k = s.2.1 24 0 k := ((z5 k hk).2.2 (Nat.le_refl _)).2
        have hv : vR z k one oth pl lk st la := ⟨(Vp_vR hn.1 hV).1, e24.trans hV.2.2.1⟩
        have est := vR_st hv
        have ihn := fun he => ih n z (by omega) (dI_no hz hk he)
        rw [← nIs] at ihn
        by_cases hs0 : st = 0
        · have e0 : irm (z.2.1 24 0 (nI k).toNatClampNeg / 4096) 4 = 0 := by rw [ck, est, hs0]; rfl
          have i1 : sp_L_isOf [aR 24 0, aI (nI k), aI (nI p)] z (fun r s' => s' = z ∧ ∃ y : Int32, r = some (aI y) ∧ Bv y (isOfL z k (nI p))) X := ⟨k, by omega, rfl, ⟨fun q => ⟨rfl, _, rfl, Bv_t q⟩, fun q => ⟨rfl, _, rfl, Bv_f q⟩⟩⟩
          have ev : isOfL z k (nI p) ↔ evE s k (nI p) := by
            unfold isOfL evE
            rw [vR_one hv, vR_oth hv, hV.2.1.1, hV.2.1.2.1, hV.2.1.2.2.2.2.1, hs0]
            exact ⟨fun w => ⟨rfl, w.imp Eq.symm Eq.symm⟩, fun w => w.2.imp Eq.symm Eq.symm⟩
          rw [ev] at i1
          refine run.go [750] 80 ?_
          repeat' (first | apply And.intro | (intro q; exact absurd q (by decide)) | (intro q; exact absurd (by decide) q) | (intro q; exact absurd rfl q) | (intro q; exact absurd q hle) | (intro q; exact absurd hle q) | (intro q; exact absurd q e0) | (intro q; exact absurd e0 q) | intro _)
          all_goals first | (exact b2) | (exact bk) | (exact trivial) | (with_reducible exact Nat.le_refl _) | decide | (exact (rfl : (0 : Nat) = 0)) | (exact Nat.le_of_ble_eq_true rfl) | ((with_reducible show False); contradiction) | skip
          refine ⟨_, i1, ?_⟩
          rintro r s' ⟨rfl, y, rfl, hy⟩
          rcases hy with ⟨rfl, hy⟩ | ⟨rfl, hy⟩
          · have ihy := ih (n + 1) _ (by omega) (dI_yes hn hz hk hy hV ((z2 30 0 0 (by omega) (by omega) (by omega)).trans hd0'))
            rw [← nIs, ← nIs] at ihy
            repeat' (first | apply And.intro | (intro q; exact absurd q (by decide)) | (intro q; exact absurd (by decide) q) | (intro q; exact absurd rfl q) | intro _)
            all_goals first | (exact trivial) | (with_reducible exact Nat.le_refl _) | decide | (exact (rfl : (0 : Nat) = 0)) | (exact Nat.le_of_ble_eq_true rfl) | ((with_reducible show False); contradiction) | skip
            refine ⟨fun r s2 => r = none ∧ s2 = chV one oth pl lk st la 3 s' k, ⟨k, one, oth, pl, lk, st, la, 3, by omega, rfl, by decide, rfl, hv, rfl, rfl⟩, ?_⟩
            rintro r s2 ⟨rfl, rfl⟩
            repeat' (first | apply And.intro | (intro q; exact absurd q (by decide)) | (intro q; exact absurd (by decide) q) | (intro q; exact absurd rfl q) | intro _)
            all_goals first | (exact trivial) | (with_reducible exact Nat.le_refl _) | decide | (exact (rfl : (0 : Nat) = 0)) | (exact Nat.le_of_ble_eq_true rfl) | ((with_reducible show False); contradiction) | (exact ihy)
          · repeat' (first | apply And.intro | (intro q; exact absurd q (by decide)) | (intro q; exact absurd (by decide) q) | (intro q; exact absurd rfl q) | intro _)
            all_goals first | (exact trivial) | (with_reducible exact Nat.le_refl _) | decide | (exact (rfl : (0 : Nat) = 0)) | (exact Nat.le_of_ble_eq_true rfl) | ((with_reducible show False); contradiction) | (exact ihn hy)
        · have e0 : ¬ irm (z.2.1 24 0 (nI k).toNatClampNeg / 4096) 4 = 0 := by
            rw [ck, est]
            exact fun w => hs0 ((n0 (by omega)).mp w)
          have he : ¬ evE s k (nI p) := by
            rintro ⟨w, -⟩
            rw [hV.2.1.2.2.2.2.1] at w
            exact hs0 ((n0 (by omega)).mp w)
          refine run.go [750] 80 ?_
          repeat' (first | apply And.intro | (intro q; exact absurd q (by decide)) | (intro q; exact absurd (by decide) q) | (intro q; exact absurd rfl q) | (intro q; exact absurd q hle) | (intro q; exact absurd hle q) | (intro q; exact absurd q e0) | (intro q; exact absurd e0 q) | intro _)
          all_goals first | (exact b2) | (exact bk) | (exact trivial) | (with_reducible exact Nat.le_refl _) | decide | (exact (rfl : (0 : Nat) = 0)) | (exact Nat.le_of_ble_eq_true rfl) | ((with_reducible show False); contradiction) | (exact ihn he)
    · have hcc : ¬ ¬ s.2.1 12 p 5 = 0 := by
        rw [hP.2.1.2.2.2.2, n0 (by omega)]
        omega
      have e1 : ¬ irm (s.2.1 20 0 (nI p).toNatClampNeg / 64) 2 = 0 := by
        rw [cp, ede, n0 (by omega)]
        omega
      have j : ∀ v, Z 811 0 (lPp 4 a b p 1 ++ [(12, .inl 0), (13, .inl 0), (14, .inl 0)]) [] (stS s 20 0 16 v) := fun v => by
        have g := die_3 (X := X) (Rl_scr (a := 20) (c := 16) (v := v) (by omega) (Rl_of h)) hp2 hcc
        refine run.go [] 80 ?_
        repeat' (first | apply And.intro | (intro q; exact absurd q (by decide)) | (intro q; exact absurd (by decide) q) | (intro q; exact absurd rfl q) | intro _)
        all_goals first | (exact trivial) | (with_reducible exact Nat.le_refl _) | decide | (exact (rfl : (0 : Nat) = 0)) | (exact Nat.le_of_ble_eq_true rfl) | ((with_reducible show False); contradiction) | skip
        refine ⟨_, g, ?_⟩
        rintro r s2 ⟨rfl, h2⟩
        repeat' (first | apply And.intro | (intro q; exact absurd q (by decide)) | (intro q; exact absurd (by decide) q) | (intro q; exact absurd rfl q) | intro _)
        all_goals first | (exact trivial) | (with_reducible exact Nat.le_refl _) | decide | (exact (rfl : (0 : Nat) = 0)) | (exact Nat.le_of_ble_eq_true rfl) | ((with_reducible show False); contradiction) | (exact hN s2 (Rl_mono (by omega) h2))
      refine run.go [811] 80 ?_
      repeat' (first | apply And.intro | (intro q; exact absurd q (by decide)) | (intro q; exact absurd (by decide) q) | (intro q; exact absurd rfl q) | (intro q; exact absurd q e1) | (intro q; exact absurd e1 q) | intro _)
      all_goals first | (exact b20) | (exact b16) | (exact b2) | (exact trivial) | (with_reducible exact Nat.le_refl _) | decide | (exact (rfl : (0 : Nat) = 0)) | (exact Nat.le_of_ble_eq_true rfl) | ((with_reducible show False); contradiction) | (exact j _)
  · obtain rfl := Bv_0 hx hp2
    have j : ∀ v, Z 811 0 (lPp 4 a b p 0 ++ [(12, .inl 0), (13, .inl 0), (14, .inl 0)]) [] (stS s 20 0 16 v) := fun v => by
      have g := die_1 (X := X) (Rl_scr (a := 20) (c := 16) (v := v) (by omega) hR) hp2 (by omega)
      refine run.go [] 80 ?_
      repeat' (first | apply And.intro | (intro q; exact absurd q (by decide)) | (intro q; exact absurd (by decide) q) | (intro q; exact absurd rfl q) | intro _)
      all_goals first | (exact trivial) | (with_reducible exact Nat.le_refl _) | decide | (exact (rfl : (0 : Nat) = 0)) | (exact Nat.le_of_ble_eq_true rfl) | ((with_reducible show False); contradiction) | skip
      refine ⟨_, g, ?_⟩
      rintro r s2 ⟨rfl, h2⟩
      repeat' (first | apply And.intro | (intro q; exact absurd q (by decide)) | (intro q; exact absurd (by decide) q) | (intro q; exact absurd rfl q) | intro _)
      all_goals first | (exact trivial) | (with_reducible exact Nat.le_refl _) | decide | (exact (rfl : (0 : Nat) = 0)) | (exact Nat.le_of_ble_eq_true rfl) | ((with_reducible show False); contradiction) | (exact hN s2 (Rl_mono (by omega) h2))
    refine run.go [811] 80 ?_
    repeat' (first | apply And.intro | (intro q; exact absurd q (by decide)) | (intro q; exact absurd (by decide) q) | (intro q; exact absurd rfl q) | intro _)
    all_goals first | (exact b16) | (exact b2) | (exact trivial) | (with_reducible exact Nat.le_refl _) | decide | (exact (rfl : (0 : Nat) = 0)) | (exact Nat.le_of_ble_eq_true rfl) | ((with_reducible show False); contradiction) | (exact j _)
end IsPs3

