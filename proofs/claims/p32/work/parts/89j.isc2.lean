/-! the law's isCause: votes, sentences, appeals -/
theorem prL_n {w : Nat → Int32} {db : Nat} : ∀ k, k ≤ 7 → ∃ m, m < 2 ^ k ∧ prL w db k = nI m
  | 0, _ => ⟨0, by decide, rfl⟩
  | k + 1, hk => by
    obtain ⟨m, hm, e⟩ := prL_n (w := w) (db := db) k (by omega)
    have p : 2 ^ k ≤ 64 := Nat.pow_le_pow_right (show 0 < 2 by decide) (show k ≤ 6 by omega)
    have p2 : 2 ^ (k + 1) = 2 ^ k + 2 ^ k := by rw [Nat.pow_succ]; omega
    rw [prL, e]
    by_cases c : 5 < w k ∧ db / 2 ^ k % 2 = 1
    · rw [if_pos c, orN (by omega) (by omega)]
      exact ⟨m ||| 2 ^ k, Nat.or_lt_two_pow (by omega) (by omega), rfl⟩
    · rw [if_neg c, Int32.or_zero]
      exact ⟨m, by omega, rfl⟩
theorem coC_l {s : Sg} {k a c : Nat} {v : Int32} (ha : 20 ≤ a) : (seS (coC s k v) k).2.1 a 0 c = s.2.1 a 0 c := by
  have st : ∀ (z : Sg) (x i j : Nat) (w : Int32), x < 20 → (stS z x i j w).2.1 a 0 c = z.2.1 a 0 c := fun z x i j w hx => by rw [stS_get, if_neg (by omega)]
  have si : ∀ (z : Sg) (x i j : Nat) (w : Int32), x < 20 → (stI z x i j w).2.1 a 0 c = z.2.1 a 0 c := fun z x i j w hx => by rw [stI_get, if_neg (by omega)]
  have re : ∀ z : Sg, (reoC z k).2.1 a 0 c = z.2.1 a 0 c := fun z => by
    unfold reoC
    rw [si _ _ _ _ _ (by decide), st _ _ _ _ _ (by decide), st _ _ _ _ _ (by decide)]
  have it : ∀ (P : Prop) (x y : Sg), x.2.1 a 0 c = s.2.1 a 0 c → y.2.1 a 0 c = s.2.1 a 0 c → (iteP P x y).2.1 a 0 c = s.2.1 a 0 c := fun P x y hx hy => by
    by_cases h : P
    · rw [iteP_t h]; exact hx
    · rw [iteP_f h]; exact hy
  have co : (coC s k v).2.1 a 0 c = s.2.1 a 0 c := by
    unfold coC cfC csC ctC
    refine it _ _ _ (it _ _ _ ?_ ?_) (it _ _ _ (it _ _ _ ?_ ?_) ?_)
    · rw [st _ _ _ _ _ (by decide), st _ _ _ _ _ (by decide)]
    · rw [re, st _ _ _ _ _ (by decide)]
    · rw [st _ _ _ _ _ (by decide), st _ _ _ _ _ (by decide)]
    · rw [re, st _ _ _ _ _ (by decide)]
    · rw [st _ _ _ _ _ (by decide), st _ _ _ _ _ (by decide)]
  unfold seS
  refine it _ _ _ ?_ co
  rw [st _ _ _ _ _ (by decide), st _ _ _ _ _ (by decide)]
  exact co
section IsCs2
variable {N : Nt} {X : Xt} {Z : Kt} {s : Sg} {t a b k : Nat} {fa mo : Nat → Nat} {T : Nat → Nat → Nat} {vw db st ins qa qb qd ex ey ez : Nat}
abbrev lCv (a b k : Nat) (y : Int32) (jn sn : Nat) (ar un cn : Int32) : LC := lCq 4 a b k 1 y ++ [(15, .inl (nI jn)), (16, .inl (nI sn)), (17, .inl ar), (18, .inl un), (19, .inl cn)]
set_option maxRecDepth 100000 in
set_option maxHeartbeats 4000000 in
theorem isC_cit {jn sn j j2 v c : Nat} {y ar un cn : Int32} {z : Sg} (run : Rn tab_L_isCause 20 N X Z) (hk : k < 8) (hv : v < 129) (hj : 0 < j ∧ j < 3000000) (hj2 : j2 = j * 129) (hz : irm (z.2.1 28 0 k / nI j) 129 = nI v)
    (nx : Z 1219 0 (lCv a b k y jn sn ar un cn ++ [(20, .inl (nI (c + if v = 0 then 0 else 1))), (21, .inl (nI j2))]) [] z) : Z 1219 0 (lCv a b k y jn sn ar un cn ++ [(20, .inl (nI c)), (21, .inl (nI j))]) [] z := by
  have ck : (nI k).toNatClampNeg = k := nI_clamp (by omega)
  have bk : Ib (nI k) 9 := nIb (by omega) (by decide)
  have h1 : ¬ (3000000 : Int32) ≤ nI j := nI_ge (b := 3000000) hj.2 (by decide)
  have e2 : nI j * 129 = nI j2 := by rw [hj2]; exact nIm j 129
  have j0 : ¬ nI j = 0 := fun w => absurd ((n0 (by omega)).mp w) (by omega)
  have l : irm (z.2.1 28 0 (nI k).toNatClampNeg / nI j) 129 ≤ 0 ↔ v = 0 := by
    rw [ck, hz, show nI v ≤ 0 ↔ v ≤ 0 from nI_leI (b := 0) (by omega) (by decide)]
    omega
  rw [← e2] at nx
  by_cases c1 : v = 0
  · have e1 := l.mpr c1
    rw [if_pos c1, show nI (c + 0) = nI c + 0 from (nI_add c 0).symm] at nx
    refine run.go [1219] 60 ?_
    repeat' (first | apply And.intro | (intro q; exact absurd q (by decide)) | (intro q; exact absurd (by decide) q) | (intro q; exact absurd rfl q) | (intro q; exact absurd q h1) | (intro q; exact absurd h1 q) | (intro q; exact absurd q e1) | (intro q; exact absurd e1 q) | intro _)
    all_goals first | (exact bk) | (exact j0) | (exact trivial) | (with_reducible exact Nat.le_refl _) | decide | (exact (rfl : (0 : Nat) = 0)) | (exact Nat.le_of_ble_eq_true rfl) | ((with_reducible show False); contradiction) | (exact nx)
  · have e1 : ¬ _ := fun w => c1 (l.mp w)
    rw [if_neg c1, ← nIs] at nx
    refine run.go [1219] 60 ?_
    repeat' (first | apply And.intro | (intro q; exact absurd q (by decide)) | (intro q; exact absurd (by decide) q) | (intro q; exact absurd rfl q) | (intro q; exact absurd q h1) | (intro q; exact absurd h1 q) | (intro q; exact absurd q e1) | (intro q; exact absurd e1 q) | intro _)
    all_goals first | (exact bk) | (exact j0) | (exact trivial) | (with_reducible exact Nat.le_refl _) | decide | (exact (rfl : (0 : Nat) = 0)) | (exact Nat.le_of_ble_eq_true rfl) | ((with_reducible show False); contradiction) | (exact nx)
set_option maxRecDepth 100000 in
set_option maxHeartbeats 4000000 in
theorem isC_cnt {jn sn A B D : Nat} {y ar un cn : Int32} {z : Sg} (run : Rn tab_L_isCause 20 N X Z) (hk : k < 8) (hA : A < 129) (hB : B < 129) (hD : D < 129) (hz : z.2.1 28 0 k = nI (pk3 A B D))
    (nx : Z 1267 0 (lCv a b k y jn sn ar un cn ++ [(20, .inl (nI (vcN A B D))), (21, .inl (nI 276922881))]) [] z) : Z 1213 0 (lCv a b k y jn sn ar un cn) [] z := by
  have j5 : Z 1219 0 (lCv a b k y jn sn ar un cn ++ [(20, .inl (nI (vcN A B D))), (21, .inl (nI 276922881))]) [] z := by
    have h1 : (3000000 : Int32) ≤ nI 276922881 := by decide
    refine run.go [1267] 60 ?_
    repeat' (first | apply And.intro | (intro q; exact absurd q (by decide)) | (intro q; exact absurd (by decide) q) | (intro q; exact absurd rfl q) | (intro q; exact absurd q h1) | (intro q; exact absurd h1 q) | intro _)
    all_goals first | (exact trivial) | (with_reducible exact Nat.le_refl _) | decide | (exact (rfl : (0 : Nat) = 0)) | (exact Nat.le_of_ble_eq_true rfl) | ((with_reducible show False); contradiction) | (exact nx)
  have b : pk3 A B D < 2146689 := by unfold pk3; omega
  have h4 : irm (z.2.1 28 0 k / nI 2146689) 129 = nI 0 := by
    rw [hz, divN (by omega) (by decide) (by decide), show pk3 A B D / 2146689 = 0 from Nat.div_eq_of_lt b]
    exact irmN (d := 129) (by decide) (by decide) (by decide)
  have h3 : irm (z.2.1 28 0 k / nI 16641) 129 = nI D := by
    rw [hz, show (nI (pk3 A B D) / nI 16641) = nI D from pk3_c hA hB hD]
    exact (irmN (d := 129) (by omega) (by decide) (by decide)).trans (by rw [Nat.mod_eq_of_lt hD])
  have h2 : irm (z.2.1 28 0 k / nI 129) 129 = nI B := by rw [hz]; exact pk3_b hA hB hD
  have h1 : irm (z.2.1 28 0 k / nI 1) 129 = nI A := by
    rw [hz, divN (by omega) (by decide) (by decide), Nat.div_one]
    exact pk3_a hA hB hD
  have ev : ((0 + if A = 0 then 0 else 1) + if B = 0 then 0 else 1) + (if D = 0 then 0 else 1) + (if (0 : Nat) = 0 then 0 else 1) = vcN A B D := by
    unfold vcN
    rw [if_pos rfl, Nat.zero_add, Nat.add_zero]
  rw [← ev] at j5
  have j4 := isC_cit run hk (by decide) (by decide) (by decide) h4 j5
  have j3 := isC_cit run hk hD (by decide) (by decide) h3 j4
  have j2 := isC_cit run hk hB (by decide) (by decide) h2 j3
  have j1 := isC_cit run hk hA (by decide) (by decide) h1 j2
  rw [show nI 0 = (0 : Int32) from rfl, show nI 1 = (1 : Int32) from by decide] at j1
  refine run.go [1219] 60 ?_
  repeat' (first | apply And.intro | (intro q; exact absurd q (by decide)) | (intro q; exact absurd (by decide) q) | (intro q; exact absurd rfl q) | intro _)
  all_goals first | (exact trivial) | (with_reducible exact Nat.le_refl _) | decide | (exact (rfl : (0 : Nat) = 0)) | (exact Nat.le_of_ble_eq_true rfl) | ((with_reducible show False); contradiction) | (exact j1)
set_option maxRecDepth 100000 in
set_option maxHeartbeats 4000000 in
theorem isC_vno {jn sn : Nat} {y ar un ans : Int32} (run : Rn tab_L_isCause 20 N X Z) (h : Rg t fa mo T (rows s) s) (hk : k < s.1 2) (hsn : sn < 129) (hp : Cp t s k vw db st ins qa qb qd ex ey ez) (hN : ∀ s2, Rl (t + 1) s2 → N (some (aI 1)) s2)
    (g : ∀ v, sp_L_does [aR 1 0, aI 17, aI (nI k), aI (nI jn), aI (nI sn), aI 0] (stS s 28 0 8 v) (Dn ans t) X) (hans : (ar = 0 ∧ ans = -3000000) ∨ (ar = 1 ∧ 127 < sn ∧ ans = -2000000) ∨ (ar = 1 ∧ sn ≤ 127 ∧ ans = -1000000)) :
    Z 1177 0 (lCq 4 a b k 1 y ++ [(15, .inl (nI jn)), (16, .inl (nI sn)), (17, .inl ar), (18, .inl un)]) [aI 0] s := by
  have hn := Rg_n h
  have hb := hp.2.1
  have b8 : Ib 8 9 := nIb (k := 8) (by decide) (by decide)
  have l : nI sn ≤ 127 ↔ sn ≤ 127 := nI_leI (b := 127) (by omega) (by decide)
  have j1213 : ∀ v, Z 1213 0 (lCv a b k y jn sn ar un 0) [] (stS s 28 0 8 v) := by
    intro v
    have g := g v
    refine isC_cnt (A := qa) (B := qb) (D := qd) run (by omega) (by omega) (by omega) (by omega) (by rw [stS_get, if_neg (by omega)]; exact hp.2.2.2.2.2.1) ?_
    rcases hans with ⟨rfl, rfl⟩ | ⟨rfl, w, rfl⟩ | ⟨rfl, w, rfl⟩
    · refine run.go [] 60 ?_
      repeat' (first | apply And.intro | (intro q; exact absurd q (by decide)) | (intro q; exact absurd (by decide) q) | (intro q; exact absurd rfl q) | intro _)
      all_goals first | (exact trivial) | (with_reducible exact Nat.le_refl _) | decide | (exact (rfl : (0 : Nat) = 0)) | (exact Nat.le_of_ble_eq_true rfl) | ((with_reducible show False); contradiction) | skip
      refine ⟨_, g, ?_⟩
      rintro r s2 ⟨rfl, h2⟩
      repeat' (first | apply And.intro | (intro q; exact absurd q (by decide)) | (intro q; exact absurd (by decide) q) | (intro q; exact absurd rfl q) | intro _)
      all_goals first | (exact trivial) | (with_reducible exact Nat.le_refl _) | decide | (exact (rfl : (0 : Nat) = 0)) | (exact Nat.le_of_ble_eq_true rfl) | ((with_reducible show False); contradiction) | (exact hN s2 (Rl_mono (by omega) h2))
    · have e1 : ¬ _ := fun w2 => absurd (l.mp w2) (by omega)
      refine run.go [] 60 ?_
      repeat' (first | apply And.intro | (intro q; exact absurd q (by decide)) | (intro q; exact absurd (by decide) q) | (intro q; exact absurd rfl q) | intro _)
      all_goals first | (exact trivial) | (with_reducible exact Nat.le_refl _) | decide | (exact (rfl : (0 : Nat) = 0)) | (exact Nat.le_of_ble_eq_true rfl) | ((with_reducible show False); contradiction) | skip
      refine ⟨_, g, ?_⟩
      rintro r s2 ⟨rfl, h2⟩
      repeat' (first | apply And.intro | (intro q; exact absurd q (by decide)) | (intro q; exact absurd (by decide) q) | (intro q; exact absurd rfl q) | (intro q; exact absurd q e1) | (intro q; exact absurd e1 q) | intro _)
      all_goals first | (exact trivial) | (with_reducible exact Nat.le_refl _) | decide | (exact (rfl : (0 : Nat) = 0)) | (exact Nat.le_of_ble_eq_true rfl) | ((with_reducible show False); contradiction) | (exact hN s2 (Rl_mono (by omega) h2))
    · have e1 := l.mpr w
      refine run.go [] 60 ?_
      repeat' (first | apply And.intro | (intro q; exact absurd q (by decide)) | (intro q; exact absurd (by decide) q) | (intro q; exact absurd rfl q) | intro _)
      all_goals first | (exact trivial) | (with_reducible exact Nat.le_refl _) | decide | (exact (rfl : (0 : Nat) = 0)) | (exact Nat.le_of_ble_eq_true rfl) | ((with_reducible show False); contradiction) | skip
      refine ⟨_, g, ?_⟩
      rintro r s2 ⟨rfl, h2⟩
      repeat' (first | apply And.intro | (intro q; exact absurd q (by decide)) | (intro q; exact absurd (by decide) q) | (intro q; exact absurd rfl q) | (intro q; exact absurd q e1) | (intro q; exact absurd e1 q) | intro _)
      all_goals first | (exact trivial) | (with_reducible exact Nat.le_refl _) | decide | (exact (rfl : (0 : Nat) = 0)) | (exact Nat.le_of_ble_eq_true rfl) | ((with_reducible show False); contradiction) | (exact hN s2 (Rl_mono (by omega) h2))
  refine run.go [1213] 60 ?_
  repeat' (first | apply And.intro | (intro q; exact absurd q (by decide)) | (intro q; exact absurd (by decide) q) | (intro q; exact absurd rfl q) | intro _)
  all_goals first | (exact b8) | (exact trivial) | (with_reducible exact Nat.le_refl _) | decide | (exact (rfl : (0 : Nat) = 0)) | (exact Nat.le_of_ble_eq_true rfl) | ((with_reducible show False); contradiction) | (exact j1213 _)
set_option maxRecDepth 100000 in
set_option maxHeartbeats 4000000 in
theorem isC_v1121 {jn sn un A : Nat} (run : Rn tab_L_isCause 20 N X Z) (h : Rg t fa mo T (rows s) s) (hk : k < s.1 2) (hsn : sn < 129) (hp : Cp t s k vw db st ins qa qb qd ex ey ez) (hN : ∀ s2, Rl (t + 1) s2 → N (some (aI 1)) s2)
    (hun : (jn = 0 ∧ un = 1 ∧ A = qa) ∨ (jn = 1 ∧ un = 129 ∧ A = qb) ∨ (jn = 2 ∧ un = 16641 ∧ A = qd)) : Z 1121 0 (lCq 4 a b k 1 (nI st) ++ [(15, .inl (nI jn)), (16, .inl (nI sn)), (17, .inl 1), (18, .inl (nI un))]) [] s := by
  have hn := Rg_n h
  have hb := hp.1
  have hb2 := hp.2.1
  have ck : (nI k).toNatClampNeg = k := nI_clamp (by omega)
  have bk : Ib (nI k) 9 := nIb (by omega) (by decide)
  have b8 : Ib 8 9 := nIb (k := 8) (by decide) (by decide)
  have u0 : ¬ nI un = 0 := fun w => absurd ((n0 (by omega)).mp w) (by omega)
  obtain ⟨y1, y2, y3, y4, y5⟩ := Cp_n hp
  have e28 : s.2.1 28 0 k = nI (pk3 qa qb qd) := hp.2.2.2.2.2.1
  have hpk : pk3 qa qb qd < 2146689 := by unfold pk3; omega
  have eA : irm (s.2.1 28 0 (nI k).toNatClampNeg / nI un) 129 = nI A := by
    rw [ck, e28]
    rcases hun with ⟨-, rfl, rfl⟩ | ⟨-, rfl, rfl⟩ | ⟨-, rfl, rfl⟩
    · rw [divN (by omega) (by decide) (by decide), Nat.div_one]
      exact pk3_a hb2.1 hb2.2.1 hb2.2.2.1
    · exact pk3_b hb2.1 hb2.2.1 hb2.2.2.1
    · rw [show (nI (pk3 qa qb A) / nI 16641) = nI A from pk3_c hb2.1 hb2.2.1 hb2.2.2.1]
      exact (irmN (d := 129) (by omega) (by decide) (by decide)).trans (by rw [Nat.mod_eq_of_lt (by omega)])
  have l1 : (128 : Int32) ≤ nI sn ↔ 128 ≤ sn := nI_leI (a := 128) (by decide) (by omega)
  have l2 : nI st = 1 ↔ st = 1 := nI_eq (b := 1) (by omega) (by decide)
  have l3 : irm (s.2.1 28 0 (nI k).toNatClampNeg / nI un) 129 = 0 ↔ A = 0 := by rw [eA]; exact n0 (by omega)
  have e16 : s.2.1 16 k jn = nI A - 1 := by
    rcases hun with ⟨rfl, -, rfl⟩ | ⟨rfl, -, rfl⟩ | ⟨rfl, -, rfl⟩
    · exact hp.2.2.2.2.1.1
    · exact hp.2.2.2.2.1.2.1
    · exact hp.2.2.2.2.1.2.2
  obtain ⟨pr, hpr, epr⟩ := prL_n (w := fun j => s.2.1 27 0 (7 * k + j)) (db := db) 7 (Nat.le_refl _)
  have epc : prC s k = nI pr := (prC_cl hp).trans epr
  have i1 : sp_L_proven [aR 26 0, aR 27 0, aI (nI k)] s (fun r s' => r = some (aI (nI pr)) ∧ s' = s) X := ⟨k, vw, db, st, ins, by omega, rfl, Cp_cR hn.2.1 hp, by rw [epr], rfl⟩
  by_cases c1 : 128 ≤ sn
  · have e1 := l1.mpr c1
    have j := isC_vno (a := a) (b := b) (y := nI st) (ar := 1) (un := nI un) run h hk hsn hp hN (fun v => vote_2 (X := X) (Rl_scr (a := 28) (c := 8) (v := v) (by omega) (Rl_of h)) hk (j := jn) (by omega) (by omega) (by omega)) (Or.inr (Or.inl ⟨rfl, by omega, rfl⟩))
    refine run.go [1177] 60 ?_
    repeat' (first | apply And.intro | (intro q; exact absurd q (by decide)) | (intro q; exact absurd (by decide) q) | (intro q; exact absurd rfl q) | (intro q; exact absurd q e1) | (intro q; exact absurd e1 q) | intro _)
    all_goals first | (exact trivial) | (with_reducible exact Nat.le_refl _) | decide | (exact (rfl : (0 : Nat) = 0)) | (exact Nat.le_of_ble_eq_true rfl) | ((with_reducible show False); contradiction) | (exact j)
  · have e1 : ¬ _ := fun w => c1 (l1.mp w)
    have bad : ¬ ((st = 1 ∧ A = 0) ∧ nI sn &&& (nI pr ^^^ -1) = 0) → Z 1177 0 (lCq 4 a b k 1 (nI st) ++ [(15, .inl (nI jn)), (16, .inl (nI sn)), (17, .inl 1), (18, .inl (nI un))]) [aI 0] s := by
      intro hc
      refine isC_vno run h hk hsn hp hN (fun v => vote_3 (X := X) (Rl_scr (a := 28) (c := 8) (v := v) (by omega) (Rl_of h)) hk (j := jn) (by omega) (by omega) ?_) (Or.inr (Or.inr ⟨rfl, by omega, rfl⟩))
      rintro ⟨⟨w1, w2⟩, w3⟩
      rw [show (stS s 28 0 8 v).2.1 16 k jn = s.2.1 16 k jn from by rw [stS_get, if_neg (by omega)], e16] at w2
      rw [show prC (stS s 28 0 8 v) k = prC s k from rfl, epc] at w3
      exact hc ⟨⟨y3.mp w1, (m1_iff (by omega)).mp w2⟩, w3⟩
    by_cases c2 : st = 1
    · have e2 := l2.mpr c2
      by_cases c3 : A = 0
      · have e3 := l3.mpr c3
        by_cases c4 : nI sn &&& (nI pr ^^^ -1) = 0
        · have g := vote_0 (X := X) h hk (j := jn) (g := sn) (by omega) (by omega) hp c2 (by omega) (by rw [epc]; exact c4)
          obtain ⟨A', hA'⟩ : ∃ x, x = vj jn (sn + 1) qa 0 := ⟨_, rfl⟩
          obtain ⟨B', hB'⟩ : ∃ x, x = vj jn (sn + 1) qb 1 := ⟨_, rfl⟩
          obtain ⟨D', hD'⟩ : ∃ x, x = vj jn (sn + 1) qd 2 := ⟨_, rfl⟩
          have eu : s.2.1 28 0 k + nI un * (nI sn + 1) = nI (pk3 A' B' D') := by
            rw [e28, nIs, nIm, nI_add, hA', hB', hD']
            congr 1
            unfold pk3 vj
            rcases hun with ⟨rfl, rfl, rfl⟩ | ⟨rfl, rfl, rfl⟩ | ⟨rfl, rfl, rfl⟩
            · rw [if_pos rfl, if_neg (by decide), if_neg (by decide)]; omega
            · rw [if_neg (by decide), if_pos rfl, if_neg (by decide)]; omega
            · rw [if_neg (by decide), if_neg (by decide), if_pos rfl]; omega
          have m1 : A' < 129 ∧ B' < 129 ∧ D' < 129 := by
            rw [hA', hB', hD']
            unfold vj
            refine ⟨?_, ?_, ?_⟩ <;> (split <;> omega)
          rw [← hA', ← hB', ← hD'] at g
          have l4 : nI sn ≤ 127 := nI_le (b := 127) (by omega) (by decide)
          have j1213 : Z 1213 0 (lCv a b k (nI st) jn sn 1 (nI un) 1) [] (stS s 28 0 k (nI (pk3 A' B' D'))) := by
            refine isC_cnt (A := A') (B := B') (D := D') run (by omega) m1.1 m1.2.1 m1.2.2 (by rw [stS_get, if_pos ⟨rfl, rfl, rfl⟩]) ?_
            refine run.go [] 60 ?_
            repeat' (first | apply And.intro | (intro q; exact absurd q (by decide)) | (intro q; exact absurd (by decide) q) | (intro q; exact absurd rfl q) | intro _)
            all_goals first | (exact trivial) | (with_reducible exact Nat.le_refl _) | decide | (exact (rfl : (0 : Nat) = 0)) | (exact Nat.le_of_ble_eq_true rfl) | ((with_reducible show False); contradiction) | skip
            refine ⟨_, g, ?_⟩
            rintro r s2 ⟨rfl, h2⟩
            repeat' (first | apply And.intro | (intro q; exact absurd q (by decide)) | (intro q; exact absurd (by decide) q) | (intro q; exact absurd rfl q) | (intro q; exact absurd q l4) | (intro q; exact absurd l4 q) | intro _)
            all_goals first | (exact trivial) | (with_reducible exact Nat.le_refl _) | decide | (exact (rfl : (0 : Nat) = 0)) | (exact Nat.le_of_ble_eq_true rfl) | ((with_reducible show False); contradiction) | (exact hN s2 h2)
          rw [← eu] at j1213
          have j2 : Z 1213 0 (lCv a b k (nI st) jn sn 1 (nI un) 1) [] (stS s 28 0 (nI k).toNatClampNeg (s.2.1 28 0 (nI k).toNatClampNeg + nI un * (nI sn + 1))) := by rw [ck]; exact j1213
          refine run.go [1213] 120 ?_
          repeat' (first | apply And.intro | (intro q; exact absurd q (by decide)) | (intro q; exact absurd (by decide) q) | (intro q; exact absurd rfl q) | (intro q; exact absurd q e1) | (intro q; exact absurd e1 q) | (intro q; exact absurd q e2) | (intro q; exact absurd e2 q) | (intro q; exact absurd q e3) | (intro q; exact absurd e3 q) | intro _)
          all_goals first | (exact bk) | (exact b8) | (exact u0) | (exact trivial) | (with_reducible exact Nat.le_refl _) | decide | (exact (rfl : (0 : Nat) = 0)) | (exact Nat.le_of_ble_eq_true rfl) | ((with_reducible show False); contradiction) | skip
          refine ⟨_, i1, ?_⟩
          rintro r s' ⟨rfl, rfl⟩
          repeat' (first | apply And.intro | (intro q; exact absurd q (by decide)) | (intro q; exact absurd (by decide) q) | (intro q; exact absurd rfl q) | (intro q; exact absurd q c4) | (intro q; exact absurd c4 q) | intro _)
          all_goals first | (exact bk) | (exact b8) | (exact u0) | (exact trivial) | (with_reducible exact Nat.le_refl _) | decide | (exact (rfl : (0 : Nat) = 0)) | (exact Nat.le_of_ble_eq_true rfl) | ((with_reducible show False); contradiction) | (exact j2)
        · have j := bad (fun w => c4 w.2)
          refine run.go [1177] 120 ?_
          repeat' (first | apply And.intro | (intro q; exact absurd q (by decide)) | (intro q; exact absurd (by decide) q) | (intro q; exact absurd rfl q) | (intro q; exact absurd q e1) | (intro q; exact absurd e1 q) | (intro q; exact absurd q e2) | (intro q; exact absurd e2 q) | (intro q; exact absurd q e3) | (intro q; exact absurd e3 q) | intro _)
          all_goals first | (exact bk) | (exact u0) | (exact trivial) | (with_reducible exact Nat.le_refl _) | decide | (exact (rfl : (0 : Nat) = 0)) | (exact Nat.le_of_ble_eq_true rfl) | ((with_reducible show False); contradiction) | skip
          refine ⟨_, i1, ?_⟩
          rintro r s' ⟨rfl, rfl⟩
          repeat' (first | apply And.intro | (intro q; exact absurd q (by decide)) | (intro q; exact absurd (by decide) q) | (intro q; exact absurd rfl q) | (intro q; exact absurd q c4) | (intro q; exact absurd c4 q) | intro _)
          all_goals first | (exact trivial) | (with_reducible exact Nat.le_refl _) | decide | (exact (rfl : (0 : Nat) = 0)) | (exact Nat.le_of_ble_eq_true rfl) | ((with_reducible show False); contradiction) | (exact j)
      · have e3 : ¬ _ := fun w => c3 (l3.mp w)
        have j := bad (fun w => c3 w.1.2)
        refine run.go [1177] 120 ?_
        repeat' (first | apply And.intro | (intro q; exact absurd q (by decide)) | (intro q; exact absurd (by decide) q) | (intro q; exact absurd rfl q) | (intro q; exact absurd q e1) | (intro q; exact absurd e1 q) | (intro q; exact absurd q e2) | (intro q; exact absurd e2 q) | (intro q; exact absurd q e3) | (intro q; exact absurd e3 q) | intro _)
        all_goals first | (exact bk) | (exact u0) | (exact trivial) | (with_reducible exact Nat.le_refl _) | decide | (exact (rfl : (0 : Nat) = 0)) | (exact Nat.le_of_ble_eq_true rfl) | ((with_reducible show False); contradiction) | (exact j)
    · have e2 : ¬ _ := fun w => c2 (l2.mp w)
      have j := bad (fun w => c2 w.1.1)
      refine run.go [1177] 120 ?_
      repeat' (first | apply And.intro | (intro q; exact absurd q (by decide)) | (intro q; exact absurd (by decide) q) | (intro q; exact absurd rfl q) | (intro q; exact absurd q e1) | (intro q; exact absurd e1 q) | (intro q; exact absurd q e2) | (intro q; exact absurd e2 q) | intro _)
      all_goals first | (exact trivial) | (with_reducible exact Nat.le_refl _) | decide | (exact (rfl : (0 : Nat) = 0)) | (exact Nat.le_of_ble_eq_true rfl) | ((with_reducible show False); contradiction) | (exact j)
end IsCs2

