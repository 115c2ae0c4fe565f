/-! class and model alike: a person -/
section Prs
variable {D : Nat} {s : Sg}
theorem per_2 {g fa mo a : Int32} {t i j : Nat} : (perS s g fa mo a).2.1 t i j = if t = 2 ∧ i = 0 ∧ j = 0 then (persT s g fa mo a).2.1 2 0 0 + 1 else (persT s g fa mo a).2.1 t i j := by
  unfold perS
  rw [addS_2]
  rfl
theorem perT_6 {g fa mo a : Int32} {j : Nat} : (persT s g fa mo a).2.1 6 (s.1 0) j = if j = s.1 0 then 0 else if j < s.1 0 then evC s fa mo j else s.2.1 6 (s.1 0) j := by
  have e : (persT s g fa mo a).2.1 6 (s.1 0) j = (enC s (s.1 0) fa mo).2.1 6 (s.1 0) j := by
    unfold persT piC
    simp [stS_get]
    rfl
  rw [e]
  unfold enC
  rw [stS_get, stG_get]
  by_cases h1 : j = s.1 0
  · rw [if_pos ⟨rfl, rfl, h1⟩, if_pos h1]
  · rw [if_neg (fun w => h1 w.2.2), if_neg h1]
    by_cases h2 : j < s.1 0
    · rw [if_pos ⟨rfl, rfl, h2⟩, if_pos h2]
    · rw [if_neg (fun w => h2 w.2.2), if_neg h2]
theorem perT_o {g fa mo a : Int32} {t i j : Nat} (h : ¬ ((t = 12 ∨ t = 6) ∧ i = s.1 0)) : (persT s g fa mo a).2.1 t i j = s.2.1 t i j := by
  unfold persT piC
  have e : ∀ t' i' j' v' (z : Sg), t' = 12 → i' = s.1 0 → (stS z t' i' j' v').2.1 t i j = z.2.1 t i j := fun t' i' j' v' z k1 k2 => by
    rw [stS_get, if_neg (fun w => h ⟨Or.inl (w.1.trans k1), w.2.1.trans k2⟩)]
  rw [e _ _ _ _ _ rfl rfl, e _ _ _ _ _ rfl rfl, e _ _ _ _ _ rfl rfl, e _ _ _ _ _ rfl rfl, e _ _ _ _ _ rfl rfl, e _ _ _ _ _ rfl rfl]
  show (if t = 12 + 0 ∧ i = (enC s (s.1 0) fa mo).1 0 then 0 else (enC s (s.1 0) fa mo).2.1 t i j) = _
  rw [if_neg (fun w => h ⟨Or.inl w.1, w.2⟩)]
  unfold enC
  rw [stS_get, if_neg (fun w => h ⟨Or.inr w.1, w.2.1⟩), stG_get, if_neg (fun w => h ⟨Or.inr w.1, w.2.1⟩)]
theorem perT_12 {g fa mo a : Int32} : (persT s g fa mo a).2.1 12 (s.1 0) 0 = s.2.1 1 0 7 - g ∧ (persT s g fa mo a).2.1 12 (s.1 0) 1 = a ∧ (persT s g fa mo a).2.1 12 (s.1 0) 2 = 0 ∧ (persT s g fa mo a).2.1 12 (s.1 0) 3 = 0 ∧ (persT s g fa mo a).2.1 12 (s.1 0) 4 = 0 ∧ (persT s g fa mo a).2.1 12 (s.1 0) 5 = 1 := by
  have et : (newS (enC s (s.1 0) fa mo) 0 1).2.1 1 0 7 = s.2.1 1 0 7 := by
    show (enC s (s.1 0) fa mo).2.1 1 0 7 = _
    unfold enC
    rw [stS_get, if_neg (fun w => absurd w.1 (by decide)), stG_get, if_neg (fun w => absurd w.1 (by decide))]
  unfold persT piC
  rw [et]
  refine ⟨?_, ?_, ?_, ?_, ?_, ?_⟩
  all_goals simp [stS_get]
/-- the new row, in both -/
theorem ev_N {x y : Int32} {n : Nat} (hx : x = 100 ∨ ∃ j, j < n ∧ x = nI j) (hy : y = 100 ∨ ∃ j, j < n ∧ y = nI j) (hn : n ≤ 24) : (mmn 100 (mmn x y + 1) = if pvl x y < 100 then pvl x y + 1 else 100) ∧ ((∃ j, 1 ≤ j ∧ j ≤ n ∧ mmn 100 (mmn x y + 1) = nI j) ∨ mmn 100 (mmn x y + 1) = 100) := by
  have key : ∀ a, a ≤ 100 → ∀ b, b ≤ 100 → (mmn 100 (mmn (nI a) (nI b) + 1) = if pvl (nI a) (nI b) < 100 then pvl (nI a) (nI b) + 1 else 100) ∧ mmn 100 (mmn (nI a) (nI b) + 1) = nI (if 100 < (if b < a then b else a) + 1 then 100 else (if b < a then b else a) + 1) := by
    intro a ha b hb
    unfold mmn pvl
    by_cases h1 : b < a
    · rw [if_pos (nI_lt h1 (by omega)), if_neg (nI_nlt (a := a) (b := b) (by omega) (by omega)), if_pos h1, nIs]
      by_cases h2 : b < 100
      · rw [if_pos (show nI b < 100 from nI_lt (b := 100) h2 (by omega))]
        by_cases h3 : b + 1 < 100
        · rw [if_pos (show nI (b + 1) < 100 from nI_lt (b := 100) h3 (by omega)), if_neg (by omega)]
          exact ⟨rfl, rfl⟩
        · have h4 : b + 1 = 100 := by omega
          rw [h4]
          exact ⟨rfl, rfl⟩
      · omega
    · rw [if_neg (nI_nlt (a := b) (b := a) (by omega) (by omega)), if_neg h1, nIs]
      have hp : (if nI a < nI b then nI a else nI b) = nI a := by
        by_cases h5 : a < b
        · rw [if_pos (nI_lt h5 (by omega))]
        · rw [if_neg (nI_nlt (by omega) (by omega)), show a = b by omega]
      rw [hp]
      by_cases h2 : a < 100
      · rw [if_pos (show nI a < 100 from nI_lt (b := 100) h2 (by omega)), nIs]
        by_cases h3 : a + 1 < 100
        · rw [if_pos (show nI (a + 1) < 100 from nI_lt (b := 100) h3 (by omega)), if_neg (by omega)]
          exact ⟨rfl, rfl⟩
        · have h4 : a + 1 = 100 := by omega
          rw [h4]
          exact ⟨rfl, rfl⟩
      · have h4 : a = 100 := by omega
        subst h4
        exact ⟨rfl, rfl⟩
  obtain ⟨a, ha, ea⟩ : ∃ a, (a = 100 ∨ a < n) ∧ x = nI a := by
    rcases hx with hx | ⟨j, hj, hx⟩
    · exact ⟨100, Or.inl rfl, hx⟩
    · exact ⟨j, Or.inr hj, hx⟩
  obtain ⟨b, hb, eb⟩ : ∃ b, (b = 100 ∨ b < n) ∧ y = nI b := by
    rcases hy with hy | ⟨j, hj, hy⟩
    · exact ⟨100, Or.inl rfl, hy⟩
    · exact ⟨j, Or.inr hj, hy⟩
  obtain ⟨k1, k2⟩ := key a (by omega) b (by omega)
  rw [ea, eb]
  refine ⟨k1, ?_⟩
  rw [k2]
  by_cases hc : 100 < (if b < a then b else a) + 1
  · exact Or.inr (by rw [if_pos hc]; rfl)
  · refine Or.inl ⟨_, ?_, ?_, rfl⟩
    · rw [if_neg hc]; omega
    · rw [if_neg hc]
      split at hc <;> (split <;> omega)
theorem al_person {g fa mo a : Int32} (hDb : D ≤ 10000000) (h : Rl D s) : alI sp_L_person [aR 1 0, aI g, aI fa, aI mo, aI a, aR 60 0] sp_X5_person [aR 20 0, aI g, aI fa, aI mo, aI a] D s := by
  have hM := Rl_M h
  have hif : (fa = -1 ∨ iC s 0 fa) ↔ orP s fa := by unfold orP; rw [Rl_p h]
  have him : (mo = -1 ∨ iC s 0 mo) ↔ orP s mo := by unfold orP; rw [Rl_p h]
  have hir : ((0 ≤ g ∧ g ≤ 36000) ∧ (0 ≤ a ∧ a < 8)) ↔ (inR g 0 36000 ∧ inR a 0 7) := by rw [rg_iff, rg_iff, lt8]
  have h24 := (Rl_n h).1
  have h30 := (Rl_n h).2.1
  have h302 := (Rl_n h).2.2
  have e1 := h.1.2.2.2.2.1.1
  have h3 : nI (s.1 0) < 24 ↔ ¬ s.2.1 20 0 1 = 24 := by
    rw [e1]
    constructor
    · intro w z
      rw [z] at w
      exact absurd w (by decide)
    · intro w
      refine nI_lt (b := 24) ?_ (by decide)
      have : ¬ s.1 0 = 24 := fun z => w (by rw [z]; rfl)
      omega
  refine ⟨rfl, Rl_CI h, Rl_GI h, fun hn => ⟨1, rfl, hM, f3_1 (fun z => hn (hif.mpr z.1)) (okI_th (by decide) h)⟩, fun hf0 => ⟨fun hn => ⟨1, rfl, hM, f3_1 (fun z => hn (him.mpr z.2)) (okI_th (by decide) h)⟩, fun hm0 => ⟨fun hn => ⟨2, rfl, hM, f3_2 ⟨hif.mp hf0, him.mp hm0⟩ (fun z => hn z.1) (okI_th (by decide) h)⟩, fun hne => ⟨fun hn => ⟨2, rfl, hM, f3_2 ⟨hif.mp hf0, him.mp hm0⟩ (fun z => hn (hir.mpr z.2)) (okI_th (by decide) h)⟩, fun hr => ⟨fun hn => ⟨3, rfl, hM, f3_3 ⟨hif.mp hf0, him.mp hm0⟩ ⟨hne, hir.mp hr⟩ (fun z => hn (h3.mpr z)) (okI_th (by decide) h)⟩, fun h5 => ?_⟩⟩⟩⟩⟩
  have hip' : orP s fa ∧ orP s mo := ⟨hif.mp hf0, him.mp hm0⟩
  have hir' : (fa = -1 ∨ ¬ fa = mo) ∧ inR g 0 36000 ∧ inR a 0 7 := ⟨hne, hir.mp hr⟩
  have h5' := h3.mp h5
  have hlt : s.1 0 < 24 := (nI_ltI (by omega) (by decide)).mp (show nI (s.1 0) < nI 24 from h5)
  have hday := Rl_day h
  have gd0 := CI_0 (Rl_CI h)
  obtain ⟨gn, hgn, rfl⟩ := rg_nI (N := 36000) hir'.2.1 rfl
  -- where the parents' rows are
  have src : ∀ f : Int32, (f = -1 ∨ iC s 0 f) → ∀ k, k < s.1 0 → psrc s f k = sbC s f k ∧ (sbC s f k = 100 ∨ ∃ j, j < s.1 0 ∧ sbC s f k = nI j) := by
    intro f hf k hk
    unfold psrc sbC
    by_cases hf1 : f = -1
    · rw [if_pos hf1, if_pos hf1]
      exact ⟨rfl, Or.inl rfl⟩
    · rw [if_neg hf1, if_neg hf1]
      obtain ⟨p, hp, rfl, cp⟩ := Rl_pn h (hf.resolve_left hf1)
      rw [cp]
      obtain ⟨w1, w2⟩ := h.2.2.2.2.2.2.2.1.1 p k hp (by omega)
      refine ⟨w1, ?_⟩
      rcases w2 with ⟨-, w⟩ | ⟨-, j, j1, j2, w⟩ | ⟨-, w⟩
      · exact Or.inr ⟨0, by omega, w⟩
      · exact Or.inr ⟨j, by omega, w⟩
      · exact Or.inl w
  obtain ⟨y, hy⟩ : ∃ y, y = perS s (nI gn) fa mo a := ⟨_, rfl⟩
  obtain ⟨n0, no, nz, hGy, hg0⟩ := add_cnt (z := stS (persT s (nI gn) fa mo a) 2 0 0 ((persT s (nI gn) fa mo a).2.1 2 0 0 + 1)) (s := s) (a := 0) (by decide) (fun c hc => stC_ne hc) (Rl_GI h) gd0 (by omega)
  rw [show addS (stS (persT s (nI gn) fa mo a) 2 0 0 ((persT s (nI gn) fa mo a).2.1 2 0 0 + 1)) 0 = y from hy.symm] at n0 no nz hGy hg0
  have n1 := no 1 (by decide) (by decide)
  have n2 := no 2 (by decide) (by decide)
  have yo : ∀ t i j, ¬ t = 2 → ¬ ((t = 12 ∨ t = 6) ∧ i = s.1 0) → y.2.1 t i j = s.2.1 t i j := fun t i j k1 k2 => by
    rw [hy, per_2, if_neg (fun w => k1 w.1), perT_o k2]
  have y12 : ∀ c, y.2.1 12 (s.1 0) c = (persT s (nI gn) fa mo a).2.1 12 (s.1 0) c := fun c => by rw [hy, per_2, if_neg (fun w => absurd w.1 (by decide))]
  have y6 : ∀ c, y.2.1 6 (s.1 0) c = if c = s.1 0 then 0 else if c < s.1 0 then evC s fa mo c else s.2.1 6 (s.1 0) c := fun c => by rw [hy, per_2, if_neg (fun w => absurd w.1 (by decide)), perT_6]
  obtain ⟨t0, t1, t2, t3, t4, t5⟩ := perT_12 (s := s) (g := nI gn) (fa := fa) (mo := mo) (a := a)
  have hz : ∀ t i j, 20 ≤ t → y.2.1 t i j = s.2.1 t i j := fun t i j ht => yo t i j (by omega) (fun w => by have := w.1; omega)
  show ∃ kk, some (aI 0) = some (aI kk) ∧ sp_X5_person [aR 20 0, aI (nI gn), aI fa, aI mo, aI a] (stO (perS s (nI gn) fa mo a) (nI (s.1 0)).toInt64) (okI D kk) (fun _ _ => False)
  rw [← hy]
  obtain ⟨z, hzz⟩ : ∃ z, z = stO y (nI (s.1 0)).toInt64 := ⟨_, rfl⟩
  rw [← hzz]
  have zz : ∀ t i j, 20 ≤ t → z.2.1 t i j = s.2.1 t i j := fun t i j ht => by rw [hzz]; exact hz t i j ht
  have hMz : MI z := MI_e (zz 20 0 1 (by decide)) (zz 20 0 12 (by decide)) (zz 20 0 21 (by decide)) hM
  have hpz : orP z fa ∧ orP z mo := by
    unfold orP isP at hip' ⊢
    rw [zz 20 0 1 (by decide)]
    exact hip'
  have hvz : ¬ z.2.1 20 0 1 = 24 := by rw [zz 20 0 1 (by decide)]; exact h5'
  have enz : npm z = s.1 0 := by
    rw [← Rl_npm h]
    unfold npm
    rw [zz 20 0 1 (by decide)]
  have epv : pval z fa mo = pval s fa mo := by
    have e9 : ∀ f, psrc z f = psrc s f := fun f => by
      funext k
      unfold psrc
      rw [zz 28 0 _ (by decide)]
    unfold pval
    rw [e9, e9]
  refine ⟨0, rfl, hMz, f3_0 hpz hir' hvz ?_⟩
  unfold peM
  rw [enz, zz 20 0 1 (by decide), e1, zz 20 0 0 (by decide), hday, epv]
  obtain ⟨f, hf⟩ : ∃ f, f = stS (stF (stS (stS (th z 0) 22 0 (s.1 0) (s.2.1 1 0 7 - nI gn)) 23 0 (s.1 0) a) 28 (24 * s.1 0) 24 (pval s fa mo (s.1 0))) 20 0 1 (nI (s.1 0) + 1) := ⟨_, rfl⟩
  have stF_get : ∀ (x : Sg) (t b n : Nat) (ff : Nat → Int32) (a i c : Nat), (stF x t b n ff).2.1 a i c = if a = t ∧ i = 0 ∧ b ≤ c ∧ c < b + n then ff (c - b) else x.2.1 a i c := fun _ _ _ _ _ _ _ _ => rfl
  have fo2 : f.2.2 = (nI (s.1 0)).toInt64 := by rw [hf, hzz]; rfl
  have f32 : f.2.1 20 0 32 = 0 := by rw [hf]; simp [stS_get, stF_get]
  rw [← hf]
  have f1 : f.1 = y.1 := by rw [hf, hzz]; rfl
  have fo : ∀ t i j, (¬ t = 20) → (¬ t = 22) → (¬ t = 23) → (¬ t = 28) → f.2.1 t i j = y.2.1 t i j := fun t i j k1 k2 k3 k4 => by
    rw [hf, hzz]
    simp [stS_get, stF_get, stO, k1, k2, k3, k4]
  have f20 : ∀ j, ¬ j = 1 → ¬ j = 32 → f.2.1 20 0 j = s.2.1 20 0 j := fun j k1 k2 => by
    rw [hf]
    simp [stS_get, stF_get, k1, k2, zz 20 0 j (by decide)]
  have f201 : f.2.1 20 0 1 = nI (s.1 0 + 1) := by
    rw [hf, ← nIs]
    simp [stS_get]
  have f22 : ∀ c, f.2.1 22 0 c = if c = s.1 0 then s.2.1 1 0 7 - nI gn else s.2.1 22 0 c := fun c => by
    rw [hf]
    simp [stS_get, stF_get, zz 22 0 c (by decide)]
  have f23 : ∀ c, f.2.1 23 0 c = if c = s.1 0 then a else s.2.1 23 0 c := fun c => by
    rw [hf]
    simp [stS_get, stF_get, zz 23 0 c (by decide)]
  have f28 : ∀ c k, k < 24 → f.2.1 28 0 (24 * c + k) = if c = s.1 0 then pval s fa mo (s.1 0) k else s.2.1 28 0 (24 * c + k) := fun c k hk => by
    rw [hf, stS_get, if_neg (fun w => absurd w.1 (by decide)), stF_get]
    by_cases hc : c = s.1 0
    · rw [if_pos ⟨rfl, rfl, by rw [hc]; omega, by rw [hc]; omega⟩, if_pos hc, hc, Nat.add_sub_cancel_left]
    · rw [if_neg (fun w => hc (by have := w.2.2; omega)), if_neg hc, stS_get, if_neg (fun w => absurd w.1 (by decide)), stS_get, if_neg (fun w => absurd w.1 (by decide)), stS_get, if_neg (fun w => absurd w.1 (by decide)), zz 28 0 _ (by decide)]
  have fs : ∀ t i j, (¬ t = 2) → (¬ t = 20) → (¬ t = 12) → (¬ t = 6) → (¬ t = 22) → (¬ t = 23) → (¬ t = 28) → f.2.1 t i j = s.2.1 t i j := fun t i j k1 k2 k3 k4 k5 k6 k7 => by
    rw [fo t i j k2 k5 k6 k7, yo t i j k1 (fun w => w.1.elim k3 k4)]
  have agf : ∀ kk : Nat → Nat → Nat → Bool, (∀ a b c, kk a b c = true → (¬ a = 2) ∧ (¬ a = 20) ∧ (¬ a = 12) ∧ (¬ a = 6) ∧ (¬ a = 22) ∧ (¬ a = 23) ∧ (¬ a = 28)) → ag kk s f := fun kk hk a b c ha => by
    obtain ⟨k1, k2, k3, k4, k5, k6, k7⟩ := hk a b c ha
    exact fs a b c k1 k2 k3 k4 k5 k6 k7
  have m0 : f.1 0 = s.1 0 + 1 := by rw [f1]; exact n0
  have m1 : f.1 1 = s.1 1 := by rw [f1]; exact n1.1
  have m2 : f.1 2 = s.1 2 := by rw [f1]; exact n2.1
  refine ⟨?_, f32, nI (s.1 0), rfl, fun _ => fo2⟩
  have hv0 : ∀ w, w < s.1 1 → iC s 0 (s.2.1 13 w 0) ∧ iC s 0 (s.2.1 13 w 1) := fun w hw => Rl_v0 h hw
  have hv9 : ∀ w, w < s.1 1 → cl (s.2.1 13 w 0) < s.1 0 ∧ cl (s.2.1 13 w 1) < s.1 0 := fun w hw => by
    obtain ⟨i1, i2⟩ := hv0 w hw
    obtain ⟨x, hx, ex, cx⟩ := Rl_pn h i1
    obtain ⟨x', hx', ex', cx'⟩ := Rl_pn h i2
    rw [ex, ex', cx, cx']
    exact ⟨hx, hx'⟩
  have hc0 : ∀ w, w < s.1 2 → iC s 1 (s.2.1 14 w 0) := fun w hw => Rl_c0 h hw
  have gs1 := CI_1 (Rl_CI h)
  have gs2 := CI_2 (Rl_CI h)
  have hgy := of_eq_true hGy
  obtain ⟨h0, hP, hPf, hB, hE, hU, hD, hS, hV, hVf, hVl, hC, hCr, hCf⟩ := h
  obtain ⟨a1, a2, a3, a4, a5, dy, hdy, d1, d2⟩ := h0
  have u : ∀ t q c, ¬ t = 2 → ¬ q = s.1 0 → y.2.1 t q c = s.2.1 t q c := fun t q c ht hq => yo t q c ht (fun w => hq w.2)
  refine ⟨⟨?_, ?_, ?_, ?_, ?_, dy, hdy, ?_, ?_⟩, ?_, ?_, ?_, REr_ag (agf _ ?_) hE, RUn_ag (agf _ ?_) hU, RDs_ag (agf _ ?_) hD, ?_, RVs_ag m1 (agf _ ?_) hV, RVf_ag m1 (agf _ ?_) hVf, ?_, RCs_ag m2 (agf _ ?_) hC, RCr_ag m2 (agf _ ?_) hCr, RCf_ag m2 (agf _ ?_) hCf⟩
  · refine CI_mk9 (by unfold Gd at hg0 ⊢; rw [f1]; exact hg0) (Gd_o m1 (by rw [f1]; exact n1.2) gs1) (Gd_o m2 (by rw [f1]; exact n2.2) gs2) (by rw [m0]; omega) (fun w hw => ?_) (fun w hw => ?_)
    · rw [show f.1 7 = 0 from by rw [f1]; exact hgy.1.2.1, m1] at hw
      rw [fs 13 w 0 (by decide) (by decide) (by decide) (by decide) (by decide) (by decide) (by decide), fs 13 w 1 (by decide) (by decide) (by decide) (by decide) (by decide) (by decide) (by decide)]
      exact ⟨iC_up (by rw [m0]; omega) (by rw [m0]; omega) (hv0 w (by omega)).1, iC_up (by rw [m0]; omega) (by rw [m0]; omega) (hv0 w (by omega)).2⟩
    · rw [show f.1 8 = 0 from by rw [f1]; exact hgy.1.2.2, m2] at hw
      rw [fs 14 w 0 (by decide) (by decide) (by decide) (by decide) (by decide) (by decide) (by decide)]
      exact iC_up (by rw [m1]; omega) (by rw [m1]; omega) (hc0 w (by omega))
  · unfold GI at hGy ⊢
    rw [f1]
    exact hGy
  · refine eq_true ⟨⟨s.1 0 + 1, by omega, f201⟩, ⟨s.1 1, h30, ?_⟩, ⟨s.1 2, h302, ?_⟩⟩
    · rw [f20 12 (by decide) (by decide)]; exact a5.2.1
    · rw [f20 21 (by decide) (by decide)]; exact a5.2.2
  · rw [f1]
    exact ⟨nz.1.trans a4.1, nz.2.trans a4.2.1, by rw [n0]; omega, by rw [n1.1]; exact h30, by rw [n2.1]; exact h302⟩
  · rw [m0, m1, m2, f201, f20 12 (by decide) (by decide), f20 21 (by decide) (by decide)]
    exact ⟨rfl, a5.2.1, a5.2.2⟩
  · rw [fs 1 0 7 (by decide) (by decide) (by decide) (by decide) (by decide) (by decide) (by decide)]; exact d1
  · rw [f20 0 (by decide) (by decide)]; exact d2
  · -- RPs
    intro q hq
    rw [m0] at hq
    have g12 : ∀ c, f.2.1 12 q c = y.2.1 12 q c := fun c => fo 12 q c (by decide) (by decide) (by decide) (by decide)
    have gm : ∀ t, t = 24 ∨ t = 25 ∨ t = 26 ∨ t = 27 → f.2.1 t 0 q = s.2.1 t 0 q := fun t ht => by rw [fo t 0 q (by omega) (by omega) (by omega) (by omega), hz t 0 q (by omega)]
    unfold RPp
    rw [g12, g12, g12, g12, g12, g12, f22, f23, gm 24 (by omega), gm 25 (by omega), gm 26 (by omega), gm 27 (by omega)]
    by_cases hqn : q = s.1 0
    · subst hqn
      obtain ⟨w1, w2, w3, w4⟩ := hPf (s.1 0) (Nat.le_refl _)
      rw [y12, y12, y12, y12, y12, y12, t0, t1, t2, t3, t4, t5, w1, w2, w3, w4, if_pos rfl, if_pos rfl]
      exact ⟨rfl, rfl, rfl, rfl, rfl, Or.inl ⟨rfl, rfl⟩⟩
    · have h8 := hP q (by omega)
      unfold RPp at h8
      rw [u 12 q _ (by decide) hqn, u 12 q _ (by decide) hqn, u 12 q _ (by decide) hqn, u 12 q _ (by decide) hqn, u 12 q _ (by decide) hqn, u 12 q _ (by decide) hqn, if_neg hqn, if_neg hqn]
      exact h8
  · intro q hq
    rw [m0] at hq
    have gm : ∀ t, t = 24 ∨ t = 25 ∨ t = 26 ∨ t = 27 → f.2.1 t 0 q = s.2.1 t 0 q := fun t ht => by rw [fo t 0 q (by omega) (by omega) (by omega) (by omega), hz t 0 q (by omega)]
    rw [gm 24 (by omega), gm 25 (by omega), gm 26 (by omega), gm 27 (by omega)]
    exact hPf q (by omega)
  · intro q hq
    rw [m0] at hq
    rw [fo 12 q 0 (by decide) (by decide) (by decide) (by decide), fs 1 0 7 (by decide) (by decide) (by decide) (by decide) (by decide) (by decide) (by decide)]
    by_cases hqn : q = s.1 0
    · subst hqn
      rw [y12, t0, d1]
      have ed : (nI dy).toInt = dy := nI_toInt (by omega)
      have eg : (nI gn).toInt = gn := nI_toInt (by omega)
      rw [sub_toInt (by rw [ed, eg]; omega) (by rw [ed, eg]; omega), ed, eg]
      omega
    · rw [u 12 q 0 (by decide) hqn]
      exact hB q (by omega)
  · intro a b c hk; unfold kE at hk; simp only [Bool.or_eq_true, Bool.and_eq_true, Nat.beq_eq, Nat.ble_eq] at hk; omega
  · intro a b c hk; unfold kU at hk; simp only [Bool.or_eq_true, Bool.and_eq_true, Nat.beq_eq, Nat.ble_eq] at hk; omega
  · intro a b c hk; unfold kD at hk; simp only [Bool.or_eq_true, Bool.and_eq_true, Nat.beq_eq, Nat.ble_eq] at hk; omega
  · -- RSt
    refine ⟨fun p k hp hk => ?_, fun p k hp hp24 hk => ?_⟩
    · rw [m0] at hp
      rw [f28 p k hk, fo 6 p k (by decide) (by decide) (by decide) (by decide)]
      by_cases hpn : p = s.1 0
      · rw [if_pos hpn, hpn, y6]
        unfold pval
        have g1 : nI (s.1 0) < nI k ↔ s.1 0 < k := nI_ltI (by omega) (by omega)
        have g2 : nI k = nI (s.1 0) ↔ k = s.1 0 := nI_eq (by omega) (by omega)
        simp only [g1, g2]
        by_cases k1 : k = s.1 0
        · rw [if_pos k1, if_neg (by omega), if_pos k1]
          exact ⟨rfl, Or.inl ⟨k1, rfl⟩⟩
        · rw [if_neg k1, if_neg k1]
          by_cases k2 : k < s.1 0
          · rw [if_pos k2, if_neg (by omega)]
            obtain ⟨s1, s2⟩ := src fa hf0 k k2
            obtain ⟨s3, s4⟩ := src mo hm0 k k2
            obtain ⟨w1, w2⟩ := ev_N s2 s4 h24
            rw [s1, s3]
            unfold evC
            refine ⟨w1.symm, ?_⟩
            rcases w2 with ⟨j, j1, j2, w⟩ | w
            · exact Or.inr (Or.inl ⟨k2, j, j1, j2, w⟩)
            · exact Or.inr (Or.inr ⟨k1, w⟩)
          · rw [if_neg k2, if_pos (by omega), hS.2 (s.1 0) k (Nat.le_refl _) hlt hk]
            exact ⟨rfl, Or.inr (Or.inr ⟨k1, rfl⟩)⟩
      · rw [if_neg hpn, u 6 p k (by decide) hpn]
        exact hS.1 p k (by omega) hk
    · rw [m0] at hp
      rw [fo 6 p k (by decide) (by decide) (by decide) (by decide), u 6 p k (by decide) (by omega)]
      exact hS.2 p k (by omega) hp24 hk
  · intro a b c hk; unfold kV at hk; simp only [Bool.or_eq_true, Bool.and_eq_true, Nat.beq_eq, Nat.ble_eq] at hk; omega
  · intro a b c hk; unfold kV at hk; simp only [Bool.or_eq_true, Bool.and_eq_true, Nat.beq_eq, Nat.ble_eq] at hk; omega
  · -- RVl
    intro v hv
    rw [m1] at hv
    have g13 : ∀ c, f.2.1 13 v c = s.2.1 13 v c := fun c => fs 13 v c (by decide) (by decide) (by decide) (by decide) (by decide) (by decide) (by decide)
    obtain ⟨l1, l2⟩ := hv9 v hv
    rw [g13, g13, g13, fo 12 _ 5 (by decide) (by decide) (by decide) (by decide), fo 12 _ 5 (by decide) (by decide) (by decide) (by decide), u 12 _ 5 (by decide) (by omega), u 12 _ 5 (by decide) (by omega)]
    exact hVl v hv
  · intro a b c hk; unfold kC at hk; simp only [Bool.or_eq_true, Bool.and_eq_true, Nat.beq_eq, Nat.ble_eq] at hk; omega
  · intro a b c hk; unfold kC at hk; simp only [Bool.or_eq_true, Bool.and_eq_true, Nat.beq_eq, Nat.ble_eq] at hk; omega
  · intro a b c hk; unfold kC at hk; simp only [Bool.or_eq_true, Bool.and_eq_true, Nat.beq_eq, Nat.ble_eq] at hk; omega
end Prs

