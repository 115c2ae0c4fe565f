/-! the law's isSo: causes -/
section So2
variable {N : Nt} {X : Xt} {Z : Kt} {s : Sg} {t a b k : Nat} {fa mo : Nat → Nat} {T : Nat → Nat → Nat} {vw db st ins qa qb qd ex ey ez : Nat}
theorem co_Of (h : Rg t fa mo T (rows s) s) (hk : k < s.1 2) {j x : Int32} (hj : 0 ≤ j ∧ j < 7) (hv : ca7 s k j (fun r s' => s' = s ∧ r = some (aI x))) : sp_X4_causeOf [aR 1 0, aI (nI k), aI j] s (fun r s' => s' = s ∧ r = some (aI x)) X := by
  have hn := Rg_n h
  exact ⟨Rg_CI h, fun q => absurd ((iC_N (by omega) (by omega)).mpr hk) q, fun _ => ⟨fun q => absurd hj q, fun _ => by rw [show cl (nI k) = k from clN (by omega)]; exact hv⟩⟩
set_option maxRecDepth 100000 in
set_option maxHeartbeats 4000000 in
theorem so_cit {j j2 v c u : Nat} (run : Rn tab_L_isSo 450 N X Z) (hk : k < 8) (hv : v < 129) (hj : 0 < j ∧ j < 3000000) (hj2 : j2 = j * 129) (hz : irm (s.2.1 28 0 k / nI j) 129 = nI v)
    (nx : Z 174 u (lS a b ++ [(10, .inl 1), (11, .inl (nI k)), (12, .inl (nI (c + if v = 0 then 0 else 1))), (13, .inl (nI j2))]) [] s) : Z 174 u (lS a b ++ [(10, .inl 1), (11, .inl (nI k)), (12, .inl (nI c)), (13, .inl (nI j))]) [] s := by
  have ck : (nI k).toNatClampNeg = k := nI_clamp (by omega)
  have bk : Ib (nI k) 9 := nIb (by omega) (by decide)
  have h1 : ¬ (3000000 : Int32) ≤ nI j := nI_ge (b := 3000000) hj.2 (by decide)
  have e2 : nI j * 129 = nI j2 := by rw [hj2]; exact nIm j 129
  have j0 : ¬ nI j = 0 := fun w => absurd ((n0 (by omega)).mp w) (by omega)
  have l : irm (s.2.1 28 0 (nI k).toNatClampNeg / nI j) 129 ≤ 0 ↔ v = 0 := by
    rw [ck, hz, show nI v ≤ 0 ↔ v ≤ 0 from nI_leI (b := 0) (by omega) (by decide)]
    omega
  rw [← e2] at nx
  by_cases c1 : v = 0
  · have e1 := l.mpr c1
    rw [if_pos c1, show nI (c + 0) = nI c + 0 from (nI_add c 0).symm] at nx
    refine run.go [174] 60 ?_
    repeat' (first | apply And.intro | (intro q; exact absurd q (by decide)) | (intro q; exact absurd (by decide) q) | (intro q; exact absurd rfl q) | (intro q; exact absurd q h1) | (intro q; exact absurd h1 q) | (intro q; exact absurd q e1) | (intro q; exact absurd e1 q) | intro _)
    all_goals first | (exact bk) | (exact j0) | (exact trivial) | (with_reducible exact Nat.le_refl _) | decide | (exact (rfl : (0 : Nat) = 0)) | (exact Nat.le_of_ble_eq_true rfl) | ((with_reducible show False); contradiction) | (exact nx)
  · have e1 : ¬ _ := fun w => c1 (l.mp w)
    rw [if_neg c1, ← nIs] at nx
    refine run.go [174] 60 ?_
    repeat' (first | apply And.intro | (intro q; exact absurd q (by decide)) | (intro q; exact absurd (by decide) q) | (intro q; exact absurd rfl q) | (intro q; exact absurd q h1) | (intro q; exact absurd h1 q) | (intro q; exact absurd q e1) | (intro q; exact absurd e1 q) | intro _)
    all_goals first | (exact bk) | (exact j0) | (exact trivial) | (with_reducible exact Nat.le_refl _) | decide | (exact (rfl : (0 : Nat) = 0)) | (exact Nat.le_of_ble_eq_true rfl) | ((with_reducible show False); contradiction) | (exact nx)
set_option maxRecDepth 100000 in
set_option maxHeartbeats 4000000 in
theorem so_c {u : Nat} (run : Rn tab_L_isSo 450 N X Z) (h : Rg t fa mo T (rows s) s) (hk : k < s.1 2) (hu : u ≤ 176 + 14 * k) (hp : Cp t s k vw db st ins qa qb qd ex ey ez) (nx : ∀ u, u ≤ 176 + 14 * (k + 1) → Z 154 u (lS a b ++ [(10, .inl 1), (11, .inl (nI (k + 1)))]) [] s) : Z 154 u (lS a b ++ [(10, .inl 1), (11, .inl (nI k))]) [] s := by
  have hn := Rg_n h
  have hb := hp.1
  have hb2 := hp.2.1
  have b3 : Ib 3 4 := nIb (k := 3) (by decide) (by decide)
  have g3 : s.2.1 30 0 3 = nI (s.1 2) := h.1.2.2.2.2.1.2.2
  have hle : ¬ s.2.1 30 0 3 ≤ nI k := by rw [g3]; exact nI_ge hk (by omega)
  have ck : (nI k).toNatClampNeg = k := nI_clamp (by omega)
  have bk : Ib (nI k) 9 := nIb (by omega) (by decide)
  have hc := Cp_cR hn.2.1 hp
  have e28 : s.2.1 28 0 k = nI (pk3 qa qb qd) := hp.2.2.2.2.2.1
  have e29 : s.2.1 29 0 k = nI (pk3 ex ey ez) := hp.2.2.2.2.2.2.2.1
  obtain ⟨q0, q1, q2, q3⟩ := hp.2.2.1
  obtain ⟨r0, r1, r2⟩ := hp.2.2.2.2.2.2.1
  have c0 := co_Of (X := X) h hk (j := 0) (x := nI st) (by decide) ⟨fun _ => ⟨rfl, by rw [q2]⟩, fun z => absurd z (by decide), fun z => absurd z (by decide), fun z => absurd z (by decide), fun z => absurd rfl z⟩
  have c1 := co_Of (X := X) h hk (j := 1) (x := nI ins) (by decide) ⟨fun z => absurd z (by decide), fun _ => ⟨rfl, by rw [q3]⟩, fun z => absurd z (by decide), fun z => absurd z (by decide), fun _ z => absurd rfl z⟩
  have c2 := co_Of (X := X) h hk (j := 2) (x := nI db) (by decide) ⟨fun z => absurd z (by decide), fun z => absurd z (by decide), fun _ => ⟨rfl, by rw [q1]⟩, fun z => absurd z (by decide), fun _ _ z => absurd rfl z⟩
  have c3 := co_Of (X := X) h hk (j := 3) (x := nI ex - 1) (by decide) ⟨fun z => absurd z (by decide), fun z => absurd z (by decide), fun z => absurd z (by decide), fun z => absurd z (by decide), fun _ _ _ _ => ⟨rfl, by rw [← r0]; rfl⟩⟩
  have c4 := co_Of (X := X) h hk (j := 4) (x := nI ey - 1) (by decide) ⟨fun z => absurd z (by decide), fun z => absurd z (by decide), fun z => absurd z (by decide), fun z => absurd z (by decide), fun _ _ _ _ => ⟨rfl, by rw [← r1]; rfl⟩⟩
  have c5 := co_Of (X := X) h hk (j := 5) (x := nI ez - 1) (by decide) ⟨fun z => absurd z (by decide), fun z => absurd z (by decide), fun z => absurd z (by decide), fun z => absurd z (by decide), fun _ _ _ _ => ⟨rfl, by rw [← r2]; rfl⟩⟩
  have c6 := co_Of (X := X) h hk (j := 6) (x := nI (vcN qa qb qd)) (by decide) ⟨fun z => absurd z (by decide), fun z => absurd z (by decide), fun z => absurd z (by decide), fun _ => ⟨rfl, by rw [vcC_N hb2.1 hb2.2.1 hb2.2.2.1 hp.2.2.2.2.1]⟩, fun _ _ _ z => absurd rfl z⟩
  have e0 : nI st = irm (s.2.1 26 0 (nI k).toNatClampNeg / 2048) 4 := by rw [ck]; exact (cR_st hc).symm
  have e1 : nI ins = s.2.1 26 0 (nI k).toNatClampNeg / 8192 := by rw [ck]; exact (cR_in hc).symm
  have e2 : nI db = irm (s.2.1 26 0 (nI k).toNatClampNeg / 16) 128 := by rw [ck]; exact (cR_db hc).symm
  have e3 : nI ex - 1 = irm (s.2.1 29 0 (nI k).toNatClampNeg) 129 - 1 := by rw [ck, e29, pk3_a hb2.2.2.2.1 hb2.2.2.2.2.1 hb2.2.2.2.2.2]
  have e4 : nI ey - 1 = irm (s.2.1 29 0 (nI k).toNatClampNeg / 129) 129 - 1 := by rw [ck, e29, pk3_b hb2.2.2.2.1 hb2.2.2.2.2.1 hb2.2.2.2.2.2]
  have e5 : nI ez - 1 = s.2.1 29 0 (nI k).toNatClampNeg / 16641 - 1 := by rw [ck, e29, pk3_c hb2.2.2.2.1 hb2.2.2.2.2.1 hb2.2.2.2.2.2]
  simp only [← nIs] at nx
  have j217 : Z 217 u (lS a b ++ [(10, .inl 1), (11, .inl (nI k)), (12, .inl (nI (vcN qa qb qd))), (13, .inl (nI 276922881))]) [] s := by
    refine run.go [154] 160 ?_
    repeat' (first | apply And.intro | (intro q; exact absurd q (by decide)) | (intro q; exact absurd (by decide) q) | (intro q; exact absurd rfl q) | intro _)
    all_goals first | (exact b3) | (exact bk) | (exact trivial) | (with_reducible exact Nat.le_refl _) | decide | (exact (rfl : (0 : Nat) = 0)) | (exact Nat.le_of_ble_eq_true rfl) | ((with_reducible show False); contradiction) | omega | skip
    refine ⟨_, c0, ?_⟩
    rintro r s0 ⟨rfl, rfl⟩
    repeat' (first | apply And.intro | (intro q; exact absurd q (by decide)) | (intro q; exact absurd (by decide) q) | (intro q; exact absurd rfl q) | (intro q; exact absurd q e0) | (intro q; exact absurd e0 q) | intro _)
    all_goals first | (exact b3) | (exact bk) | (exact trivial) | (with_reducible exact Nat.le_refl _) | decide | (exact (rfl : (0 : Nat) = 0)) | (exact Nat.le_of_ble_eq_true rfl) | ((with_reducible show False); contradiction) | omega | skip
    refine ⟨_, c1, ?_⟩
    rintro r s1 ⟨rfl, rfl⟩
    repeat' (first | apply And.intro | (intro q; exact absurd q (by decide)) | (intro q; exact absurd (by decide) q) | (intro q; exact absurd rfl q) | (intro q; exact absurd q e1) | (intro q; exact absurd e1 q) | intro _)
    all_goals first | (exact b3) | (exact bk) | (exact trivial) | (with_reducible exact Nat.le_refl _) | decide | (exact (rfl : (0 : Nat) = 0)) | (exact Nat.le_of_ble_eq_true rfl) | ((with_reducible show False); contradiction) | omega | skip
    refine ⟨_, c2, ?_⟩
    rintro r s2 ⟨rfl, rfl⟩
    repeat' (first | apply And.intro | (intro q; exact absurd q (by decide)) | (intro q; exact absurd (by decide) q) | (intro q; exact absurd rfl q) | (intro q; exact absurd q e2) | (intro q; exact absurd e2 q) | intro _)
    all_goals first | (exact b3) | (exact bk) | (exact trivial) | (with_reducible exact Nat.le_refl _) | decide | (exact (rfl : (0 : Nat) = 0)) | (exact Nat.le_of_ble_eq_true rfl) | ((with_reducible show False); contradiction) | omega | skip
    refine ⟨_, c3, ?_⟩
    rintro r s3 ⟨rfl, rfl⟩
    repeat' (first | apply And.intro | (intro q; exact absurd q (by decide)) | (intro q; exact absurd (by decide) q) | (intro q; exact absurd rfl q) | (intro q; exact absurd q e3) | (intro q; exact absurd e3 q) | intro _)
    all_goals first | (exact b3) | (exact bk) | (exact trivial) | (with_reducible exact Nat.le_refl _) | decide | (exact (rfl : (0 : Nat) = 0)) | (exact Nat.le_of_ble_eq_true rfl) | ((with_reducible show False); contradiction) | omega | skip
    refine ⟨_, c4, ?_⟩
    rintro r s4 ⟨rfl, rfl⟩
    repeat' (first | apply And.intro | (intro q; exact absurd q (by decide)) | (intro q; exact absurd (by decide) q) | (intro q; exact absurd rfl q) | (intro q; exact absurd q e4) | (intro q; exact absurd e4 q) | intro _)
    all_goals first | (exact b3) | (exact bk) | (exact trivial) | (with_reducible exact Nat.le_refl _) | decide | (exact (rfl : (0 : Nat) = 0)) | (exact Nat.le_of_ble_eq_true rfl) | ((with_reducible show False); contradiction) | omega | skip
    refine ⟨_, c5, ?_⟩
    rintro r s5 ⟨rfl, rfl⟩
    repeat' (first | apply And.intro | (intro q; exact absurd q (by decide)) | (intro q; exact absurd (by decide) q) | (intro q; exact absurd rfl q) | (intro q; exact absurd q e5) | (intro q; exact absurd e5 q) | intro _)
    all_goals first | (exact b3) | (exact bk) | (exact trivial) | (with_reducible exact Nat.le_refl _) | decide | (exact (rfl : (0 : Nat) = 0)) | (exact Nat.le_of_ble_eq_true rfl) | ((with_reducible show False); contradiction) | omega | skip
    refine ⟨_, c6, ?_⟩
    rintro r s6 ⟨rfl, rfl⟩
    repeat' (first | apply And.intro | (intro q; exact absurd q (by decide)) | (intro q; exact absurd (by decide) q) | (intro q; exact absurd rfl q) | intro _)
    all_goals first | (exact trivial) | (with_reducible exact Nat.le_refl _) | decide | (exact (rfl : (0 : Nat) = 0)) | (exact Nat.le_of_ble_eq_true rfl) | ((with_reducible show False); contradiction) | omega | (exact run.take 12 (nx _ (by omega)))
  have j5 : Z 174 u (lS a b ++ [(10, .inl 1), (11, .inl (nI k)), (12, .inl (nI (vcN qa qb qd))), (13, .inl (nI 276922881))]) [] s := by
    have h1 : (3000000 : Int32) ≤ nI 276922881 := by decide
    refine run.go [217] 60 ?_
    repeat' (first | apply And.intro | (intro q; exact absurd q (by decide)) | (intro q; exact absurd (by decide) q) | (intro q; exact absurd rfl q) | (intro q; exact absurd q h1) | (intro q; exact absurd h1 q) | intro _)
    all_goals first | (exact trivial) | (with_reducible exact Nat.le_refl _) | decide | (exact (rfl : (0 : Nat) = 0)) | (exact Nat.le_of_ble_eq_true rfl) | ((with_reducible show False); contradiction) | (exact j217)
  have bb : pk3 qa qb qd < 2146689 := by unfold pk3; omega
  have h4 : irm (s.2.1 28 0 k / nI 2146689) 129 = nI 0 := by
    rw [e28, divN (by omega) (by decide) (by decide), show pk3 qa qb qd / 2146689 = 0 from Nat.div_eq_of_lt bb]
    exact irmN (d := 129) (by decide) (by decide) (by decide)
  have h3 : irm (s.2.1 28 0 k / nI 16641) 129 = nI qd := by
    rw [e28, show (nI (pk3 qa qb qd) / nI 16641) = nI qd from pk3_c hb2.1 hb2.2.1 hb2.2.2.1]
    exact (irmN (d := 129) (by omega) (by decide) (by decide)).trans (by rw [Nat.mod_eq_of_lt hb2.2.2.1])
  have h2 : irm (s.2.1 28 0 k / nI 129) 129 = nI qb := by rw [e28]; exact pk3_b hb2.1 hb2.2.1 hb2.2.2.1
  have h1 : irm (s.2.1 28 0 k / nI 1) 129 = nI qa := by
    rw [e28, divN (by omega) (by decide) (by decide), Nat.div_one]
    exact pk3_a hb2.1 hb2.2.1 hb2.2.2.1
  have evc : ((0 + if qa = 0 then 0 else 1) + if qb = 0 then 0 else 1) + (if qd = 0 then 0 else 1) + (if (0 : Nat) = 0 then 0 else 1) = vcN qa qb qd := by
    unfold vcN
    rw [if_pos rfl, Nat.zero_add, Nat.add_zero]
  rw [← evc] at j5
  have j4 := so_cit run (by omega) (by decide) (by decide) (by decide) h4 j5
  have j3 := so_cit run (by omega) hb2.2.2.1 (by decide) (by decide) h3 j4
  have j2 := so_cit run (by omega) hb2.2.1 (by decide) (by decide) h2 j3
  have j1 := so_cit run (by omega) hb2.1 (by decide) (by decide) h1 j2
  rw [show nI 0 = (0 : Int32) from rfl, show nI 1 = (1 : Int32) from by decide] at j1
  refine run.go [174] 60 ?_
  repeat' (first | apply And.intro | (intro q; exact absurd q (by decide)) | (intro q; exact absurd (by decide) q) | (intro q; exact absurd rfl q) | (intro q; exact absurd q hle) | (intro q; exact absurd hle q) | intro _)
  all_goals first | (exact b3) | (exact trivial) | (with_reducible exact Nat.le_refl _) | decide | (exact (rfl : (0 : Nat) = 0)) | (exact Nat.le_of_ble_eq_true rfl) | ((with_reducible show False); contradiction) | (exact j1)
end So2

