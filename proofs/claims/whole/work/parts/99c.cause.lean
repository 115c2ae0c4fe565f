/-! class and model alike: a cause brought -/
section Cau
variable {D : Nat} {s : Sg}
theorem CI_mk9 {y : Sg} (g0 : Gd y 0) (g1 : Gd y 1) (g2 : Gd y 2) (n0 : y.1 0 ≤ 24) (h13 : ∀ v, v < y.1 1 + y.1 7 → iC y 0 (y.2.1 13 v 0) ∧ iC y 0 (y.2.1 13 v 1)) (h14 : ∀ c, c < y.1 2 + y.1 8 → iC y 1 (y.2.1 14 c 0)) : CI y := eq_true ⟨g0, g1, g2, n0, h13, h14⟩
theorem cau_2 {v x : Int32} {a b c : Nat} : (cauS s v x).2.1 a b c = if a = 2 ∧ b = 2 ∧ c = 0 then (newC s v x).2.1 2 2 0 + 1 else (newC s v x).2.1 a b c := by
  unfold cauS
  rw [addS_2]
  rfl
theorem al_cause {v a x b : Int32} (hb : b = 0 ∨ b = 1) (h : Rl D s) : alI sp_L_cause [aR 1 0, aI v, aI a, aI x, aI b, aR 60 0] sp_X5_cause [aR 20 0, aI v, aI a, aI x, aI b] D s := by
  have hM := Rl_M h
  have hW := Rl_W h
  have hip := Rl_v h (p := v)
  have hir : ((0 ≤ a ∧ a < 8) ∧ (1 ≤ x ∧ x ≤ 127)) ↔ (inR a 0 7 ∧ inR x 1 127) := by rw [rg_iff, rg_iff, lt8]
  refine ⟨rfl, Rl_CI h, Rl_GI h, hb, fun hn => ⟨1, rfl, hM, hW, f3_1 (fun q => hn (hip.mpr q)) (okI_th (by decide) h)⟩, fun hp => ⟨fun hn => ⟨2, rfl, hM, hW, f3_2 (hip.mp hp) (fun q => hn (hir.mpr q)) (okI_th (by decide) h)⟩, fun hr => ?_⟩⟩
  have hip' := hip.mp hp
  have hir' := hir.mp hr
  obtain ⟨q, hq, rfl, hcq⟩ := Rl_vn h hp
  have h30 := (Rl_n h).2.2
  have h301 := (Rl_n h).2.1
  have e21 := h.1.2.2.2.2.1.2.2
  have h1 : (¬ b = 0 ∨ icourt s (cl (nI q)) a) ↔ (¬ b = 0 ∨ hasP s (nI q) a) := by rw [hcq, ic_iff h hq]
  have h2 := mbj_iff h hq (qt_no h)
  have h3 : nI (s.1 2) < 30 ↔ ¬ 30 ≤ s.2.1 20 0 21 := by rw [e21]; exact Int32.not_le.symm
  refine ⟨fun hn => ⟨3, rfl, hM, hW, f3_3 hip' hir' (fun z => hn (h1.mpr z.2.2.2)) (okI_th (by decide) h)⟩, fun c1 => ⟨fun hn => ⟨3, rfl, hM, hW, f3_3 hip' hir' (fun z => hn ⟨h2.mpr ⟨by have := z.2.1; rwa [hcq] at this, z.2.2.1⟩, h3.mpr z.1⟩) (okI_th (by decide) h)⟩, fun c2 => ?_⟩⟩
  have hca : caP s (nI q) a b := ⟨h3.mp c2.2, by rw [hcq]; exact (h2.mp c2.1).1, (h2.mp c2.1).2, h1.mp c1⟩
  have hlt : s.1 2 < 30 := (nI_ltI (by omega) (by decide)).mp (show nI (s.1 2) < nI 30 from c2.2)
  obtain ⟨xn, hx, ex⟩ : rn x := by
    have hnn : ¬ x < 0 := Int32.not_lt.mpr (Int32.le_trans (by decide) hr.2.1)
    obtain ⟨j, hj, rfl⟩ := nI_of hnn
    exact ⟨j, by have := (nI_leI hj (by decide)).mp (show nI j ≤ nI 127 from hr.2.2); omega, rfl⟩
  -- the counts
  obtain ⟨y, hy⟩ : ∃ y, y = cauS s (nI q) x := ⟨_, rfl⟩
  have gd2 := CI_2 (Rl_CI h)
  obtain ⟨n2, no, nz, hGy, hg2⟩ := add_cnt (z := stS (newC s (nI q) x) 2 2 0 ((newC s (nI q) x).2.1 2 2 0 + 1)) (s := s) (a := 2) (by decide) (fun c hc => newC_1 hc) (Rl_GI h) gd2 h30
  rw [show addS (stS (newC s (nI q) x) 2 2 0 ((newC s (nI q) x).2.1 2 2 0 + 1)) 2 = y from hy.symm] at n2 no nz hGy hg2
  have n0 := no 0 (by decide) (by decide)
  have n1 := no 1 (by decide) (by decide)
  -- the ints
  have yo : ∀ t i j, ¬ t = 2 → ¬ (i = s.1 2 ∧ 14 ≤ t ∧ t ≤ 17) → y.2.1 t i j = s.2.1 t i j := fun t i j k1 k2 => by
    rw [hy, cau_2, if_neg (fun w => k1 w.1), newC_2 k2]
  have y14 : ∀ c, y.2.1 14 (s.1 2) c = if c = 0 then nI q else if c = 1 then x else if c = 3 then 1 else 0 := fun c => by rw [hy, cau_2, if_neg (fun w => absurd w.1 (by decide)), newC_14]
  have y15 : ∀ c, y.2.1 15 (s.1 2) c = 0 := fun c => by rw [hy, cau_2, if_neg (fun w => absurd w.1 (by decide)), newC_15]
  have y16 : ∀ c, c < 3 → y.2.1 16 (s.1 2) c = -1 := fun c hc => by
    rw [hy, cau_2, if_neg (fun w => absurd w.1 (by decide)), newC_16]
    exact if_pos hc
  have y17 : ∀ c, c < 3 → y.2.1 17 (s.1 2) c = -1 := fun c hc => by
    rw [hy, cau_2, if_neg (fun w => absurd w.1 (by decide)), newC_17]
    exact if_pos hc
  have hz : ∀ t i j, 20 ≤ t → y.2.1 t i j = s.2.1 t i j := fun t i j ht => yo t i j (by omega) (fun w => by omega)
  have hxr : nI (y.1 2) - 1 = nI (s.1 2) := by rw [n2, nI_pred]
  show ∃ kk, some (aI 0) = some (aI kk) ∧ sp_X5_cause [aR 20 0, aI (nI q), aI a, aI x, aI b] (stO (cauS s (nI q) x) (nI ((cauS s (nI q) x).1 2) - 1).toInt64) (okI D kk) (fun _ _ => False)
  rw [← hy, hxr]
  obtain ⟨z, hzz⟩ : ∃ z, z = stO y (nI (s.1 2)).toInt64 := ⟨_, rfl⟩
  rw [← hzz]
  have zz : ∀ t i j, 20 ≤ t → z.2.1 t i j = s.2.1 t i j := fun t i j ht => by rw [hzz]; exact hz t i j ht
  have hMz : MI z := MI_e (zz 20 0 1 (by decide)) (zz 20 0 12 (by decide)) (zz 20 0 21 (by decide)) hM
  have hWz : WI z := WI_ag (s := s) (fun a b c ha => zz a b c (kW_20 ha)) hW
  have hpz : isV z (nI q) := by
    unfold isV
    rw [zz 20 0 12 (by decide)]
    exact hip'
  have hcz : caP z (nI q) a b := by
    have e5 : hasP z (nI q) a = hasP s (nI q) a := by
      unfold hasP
      simp only [zz 35 _ _ (by decide), zz 33 _ _ (by decide), zz 34 _ _ (by decide), zz 27 _ _ (by decide), zz 23 _ _ (by decide)]
    unfold caP at hca ⊢
    rw [zz 20 0 21 (by decide), zz 39 0 _ (by decide), qt_z zz, e5]
    exact hca
  have enz : ncm z = s.1 2 := by
    rw [← Rl_ncm h]
    unfold ncm
    rw [zz 20 0 21 (by decide)]
  refine ⟨0, rfl, hMz, hWz, f3_0 hpz hir' hcz ?_⟩
  unfold caM
  rw [enz, zz 20 0 21 (by decide), e21]
  obtain ⟨f, hf⟩ : ∃ f, f = stS (stR (stR (stS (stS (stS (th z 0) 42 0 (s.1 2) (nI q)) 43 0 (s.1 2) x) 45 0 (s.1 2) 1) 49 (3 * s.1 2) 3 (-1)) 48 (3 * s.1 2) 3 (-1)) 20 0 21 (nI (s.1 2) + 1) := ⟨_, rfl⟩
  have fo2 : f.2.2 = (nI (s.1 2)).toInt64 := by rw [hf, hzz]; rfl
  have f32 : f.2.1 20 0 32 = 0 := by rw [hf]; simp [stS_get, stR_get]
  rw [← hf]
  have f1 : f.1 = y.1 := by rw [hf, hzz]; rfl
  have fo : ∀ t i j, (¬ t = 20) → (¬ t = 42) → (¬ t = 43) → (¬ t = 45) → (¬ t = 48) → (¬ t = 49) → f.2.1 t i j = y.2.1 t i j := fun t i j k1 k2 k3 k4 k5 k6 => by
    rw [hf, hzz]
    simp [stS_get, stR_get, stO, k1, k2, k3, k4, k5, k6]
  have f20 : ∀ j, ¬ j = 21 → ¬ j = 32 → f.2.1 20 0 j = s.2.1 20 0 j := fun j k1 k2 => by
    rw [hf]
    simp [stS_get, stR_get, k1, k2, zz 20 0 j (by decide)]
  have f21 : f.2.1 20 0 21 = nI (s.1 2 + 1) := by
    rw [hf, ← nIs]
    simp [stS_get]
  have f42 : ∀ c, f.2.1 42 0 c = if c = s.1 2 then nI q else s.2.1 42 0 c := fun c => by
    rw [hf]
    simp [stS_get, stR_get, zz 42 0 c (by decide)]
  have f43 : ∀ c, f.2.1 43 0 c = if c = s.1 2 then x else s.2.1 43 0 c := fun c => by
    rw [hf]
    simp [stS_get, stR_get, zz 43 0 c (by decide)]
  have f45 : ∀ c, f.2.1 45 0 c = if c = s.1 2 then 1 else s.2.1 45 0 c := fun c => by
    rw [hf]
    simp [stS_get, stR_get, zz 45 0 c (by decide)]
  have f48 : ∀ c g, g < 3 → f.2.1 48 0 (3 * c + g) = if c = s.1 2 then -1 else s.2.1 48 0 (3 * c + g) := fun c g hg => by
    rw [hf]
    by_cases hc : c = s.1 2
    · rw [if_pos hc]
      simp [stS_get, stR_get, hc]
      omega
    · have e : ¬ (3 * s.1 2 ≤ 3 * c + g ∧ 3 * c + g < 3 * s.1 2 + 3) := by omega
      rw [if_neg hc]
      simp [stS_get, stR_get, e, zz 48 0 _ (by decide)]
  have f49 : ∀ c g, g < 3 → f.2.1 49 0 (3 * c + g) = if c = s.1 2 then -1 else s.2.1 49 0 (3 * c + g) := fun c g hg => by
    rw [hf]
    by_cases hc : c = s.1 2
    · rw [if_pos hc]
      simp [stS_get, stR_get, hc]
      omega
    · have e : ¬ (3 * s.1 2 ≤ 3 * c + g ∧ 3 * c + g < 3 * s.1 2 + 3) := by omega
      rw [if_neg hc]
      simp [stS_get, stR_get, e, zz 49 0 _ (by decide)]
  have fs : ∀ t i j, (¬ t = 2) → (¬ t = 20) → (¬ (14 ≤ t ∧ t ≤ 17)) → (¬ (42 ≤ t ∧ t ≤ 49)) → f.2.1 t i j = s.2.1 t i j := fun t i j k1 k2 k3 k4 => by
    rw [fo t i j k2 (by omega) (by omega) (by omega) (by omega) (by omega), yo t i j k1 (by omega)]
  have agf : ∀ kk : Nat → Nat → Nat → Bool, (∀ a b c, kk a b c = true → (¬ a = 2) ∧ (¬ a = 20) ∧ (¬ (14 ≤ a ∧ a ≤ 17)) ∧ (¬ (42 ≤ a ∧ a ≤ 49))) → ag kk s f := fun kk hk a b c ha => by
    obtain ⟨k1, k2, k3, k4⟩ := hk a b c ha
    exact fs a b c k1 k2 k3 k4
  have m0 : f.1 0 = s.1 0 := by rw [f1]; exact n0.1
  have m1 : f.1 1 = s.1 1 := by rw [f1]; exact n1.1
  have m2 : f.1 2 = s.1 2 + 1 := by rw [f1]; exact n2
  refine ⟨?_, f32, nI (s.1 2), rfl, fun _ => fo2⟩
  have hv0 : ∀ w, w < s.1 1 → iC s 0 (s.2.1 13 w 0) ∧ iC s 0 (s.2.1 13 w 1) := fun w hw => Rl_v0 h hw
  have hc0 : ∀ w, w < s.1 2 → iC s 1 (s.2.1 14 w 0) := fun w hw => Rl_c0 h hw
  have hgs := of_eq_true (Rl_GI h)
  have gs0 := CI_0 (Rl_CI h)
  have gs1 := CI_1 (Rl_CI h)
  have h24 := (Rl_n h).1
  have hgy := of_eq_true hGy
  obtain ⟨h0, hP, hPf, hB, hE, hU, hD, hS, hV, hVf, hVl, hC, hCr, hCf⟩ := h
  obtain ⟨a1, a2, a3, a4, a5, dy, hdy, d1, d2⟩ := h0
  refine ⟨⟨?_, ?_, ?_, ?_, ?_, dy, hdy, ?_, ?_⟩, RPs_ag m0 (agf _ ?_) hP, RPf_ag m0 (agf _ ?_) hPf, RB_ag m0 (agf _ ?_) hB, REr_ag (agf _ ?_) hE, RUn_ag (agf _ ?_) hU, RDs_ag (agf _ ?_) hD, RSt_ag m0 (agf _ ?_) hS, RVs_ag m1 (agf _ ?_) hV, RVf_ag m1 (agf _ ?_) hVf, RVl_ag m1 (agf _ ?_) hVl, ?_, ?_, ?_⟩
  · -- CI
    refine CI_mk9 (Gd_o m0 (by rw [f1]; exact n0.2) gs0) (Gd_o m1 (by rw [f1]; exact n1.2) gs1) (by unfold Gd at hg2 ⊢; rw [f1]; exact hg2) (by rw [m0]; exact h24) (fun w hw => ?_) (fun w hw => ?_)
    · rw [show f.1 7 = 0 from by rw [f1]; exact hgy.1.2.1, m1] at hw
      rw [fs 13 w 0 (by decide) (by decide) (by decide) (by decide), fs 13 w 1 (by decide) (by decide) (by decide) (by decide)]
      exact ⟨iC_up (by rw [m0]; exact Nat.le_refl _) (by rw [m0]; omega) (hv0 w hw).1, iC_up (by rw [m0]; exact Nat.le_refl _) (by rw [m0]; omega) (hv0 w hw).2⟩
    · rw [show f.1 8 = 0 from by rw [f1]; exact hgy.1.2.2, m2] at hw
      rw [fo 14 w 0 (by decide) (by decide) (by decide) (by decide) (by decide) (by decide)]
      by_cases hw2 : w = s.1 2
      · rw [hw2, y14, if_pos rfl]
        exact iC_up (by rw [m1]; exact Nat.le_refl _) (by rw [m1]; omega) hp
      · rw [yo 14 w 0 (by decide) (fun z => hw2 z.1)]
        exact iC_up (by rw [m1]; exact Nat.le_refl _) (by rw [m1]; omega) (hc0 w (by omega))
  · unfold GI at hGy ⊢
    rw [f1]
    exact hGy
  · refine eq_true ⟨⟨s.1 0, h24, ?_⟩, ⟨s.1 1, h301, ?_⟩, ⟨s.1 2 + 1, by omega, f21⟩⟩
    · rw [f20 1 (by decide) (by decide)]; exact a5.1
    · rw [f20 12 (by decide) (by decide)]; exact a5.2.1
  · rw [f1]
    exact ⟨nz.1.trans a4.1, nz.2.trans a4.2.1, by rw [n0.1]; exact h24, by rw [n1.1]; exact h301, by rw [n2]; omega⟩
  · rw [m0, m1, m2, f21, f20 1 (by decide) (by decide), f20 12 (by decide) (by decide)]
    exact ⟨a5.1, a5.2.1, rfl⟩
  · rw [fs 1 0 7 (by decide) (by decide) (by decide) (by decide)]; exact d1
  · rw [f20 0 (by decide) (by decide)]; exact d2
  · intro a b c hk; unfold kP at hk; simp only [Bool.or_eq_true, Bool.and_eq_true, Nat.beq_eq, Nat.ble_eq] at hk; omega
  · intro a b c hk; unfold kP at hk; simp only [Bool.or_eq_true, Bool.and_eq_true, Nat.beq_eq, Nat.ble_eq] at hk; omega
  · intro a b c hk; unfold kB at hk; simp only [Bool.or_eq_true, Bool.and_eq_true, Nat.beq_eq, Nat.ble_eq] at hk; omega
  · intro a b c hk; unfold kE at hk; simp only [Bool.or_eq_true, Bool.and_eq_true, Nat.beq_eq, Nat.ble_eq] at hk; omega
  · intro a b c hk; unfold kU at hk; simp only [Bool.or_eq_true, Bool.and_eq_true, Nat.beq_eq, Nat.ble_eq] at hk; omega
  · intro a b c hk; unfold kD at hk; simp only [Bool.or_eq_true, Bool.and_eq_true, Nat.beq_eq, Nat.ble_eq] at hk; omega
  · intro a b c hk; unfold kS at hk; simp only [Bool.or_eq_true, Bool.and_eq_true, Nat.beq_eq, Nat.ble_eq] at hk; omega
  · intro a b c hk; unfold kV at hk; simp only [Bool.or_eq_true, Bool.and_eq_true, Nat.beq_eq, Nat.ble_eq] at hk; omega
  · intro a b c hk; unfold kV at hk; simp only [Bool.or_eq_true, Bool.and_eq_true, Nat.beq_eq, Nat.ble_eq] at hk; omega
  · intro a b c hk; unfold kL at hk; simp only [Bool.or_eq_true, Bool.and_eq_true, Nat.beq_eq, Nat.ble_eq] at hk; omega
  · -- RCs
    intro c hc
    rw [m2] at hc
    have g44 : f.2.1 44 0 c = s.2.1 44 0 c := by rw [fo 44 0 c (by decide) (by decide) (by decide) (by decide) (by decide) (by decide), hz 44 0 c (by decide)]
    have g47 : f.2.1 47 0 c = s.2.1 47 0 c := by rw [fo 47 0 c (by decide) (by decide) (by decide) (by decide) (by decide) (by decide), hz 47 0 c (by decide)]
    have g46 : ∀ i, f.2.1 46 0 i = s.2.1 46 0 i := fun i => by rw [fo 46 0 i (by decide) (by decide) (by decide) (by decide) (by decide) (by decide), hz 46 0 i (by decide)]
    have g14 : ∀ j, f.2.1 14 c j = y.2.1 14 c j := fun j => fo 14 c j (by decide) (by decide) (by decide) (by decide) (by decide) (by decide)
    have g15 : ∀ j, f.2.1 15 c j = y.2.1 15 c j := fun j => fo 15 c j (by decide) (by decide) (by decide) (by decide) (by decide) (by decide)
    have g16 : ∀ j, f.2.1 16 c j = y.2.1 16 c j := fun j => fo 16 c j (by decide) (by decide) (by decide) (by decide) (by decide) (by decide)
    have g17 : ∀ j, f.2.1 17 c j = y.2.1 17 c j := fun j => fo 17 c j (by decide) (by decide) (by decide) (by decide) (by decide) (by decide)
    unfold RCc vcC
    rw [f42, f43, g44, f45, g47, g14, g14, g14, g14, g16, g16, g16]
    by_cases hcn : c = s.1 2
    · obtain ⟨w1, w2, w3⟩ := hCf c (by omega)
      rw [if_pos hcn, if_pos hcn, if_pos hcn, w1, w2]
      refine ⟨?_, fun g hg => ?_, fun g hg => ?_, fun g hg => ?_, ?_⟩
      · rw [hcn, y14, y14, y14, y14]
        exact ⟨rfl, rfl, rfl, rfl⟩
      · rw [g46, w3 g hg, g15, hcn, y15]
      · rw [f48 c g hg, if_pos hcn, g16, hcn, y16 g hg]
      · rw [f49 c g hg, if_pos hcn, g17, hcn, y17 g hg]
      · rw [hcn, y16 0 (by decide), y16 1 (by decide), y16 2 (by decide)]
        rfl
    · obtain ⟨w1, w2, w3, w4, w5⟩ := hC c (by omega)
      have u : ∀ t j, ¬ t = 2 → y.2.1 t c j = s.2.1 t c j := fun t j ht => yo t c j ht (fun z => hcn z.1)
      rw [if_neg hcn, if_neg hcn, if_neg hcn, u 14 0 (by decide), u 14 1 (by decide), u 14 2 (by decide), u 14 3 (by decide), u 16 0 (by decide), u 16 1 (by decide), u 16 2 (by decide)]
      refine ⟨w1, fun g hg => ?_, fun g hg => ?_, fun g hg => ?_, w5⟩
      · rw [g46, g15, u 15 g (by decide)]; exact w2 g hg
      · rw [f48 c g hg, if_neg hcn, g16, u 16 g (by decide)]; exact w3 g hg
      · rw [f49 c g hg, if_neg hcn, g17, u 17 g (by decide)]; exact w4 g hg
  · -- RCr
    intro c hc
    rw [m2] at hc
    have g14 : ∀ j, f.2.1 14 c j = y.2.1 14 c j := fun j => fo 14 c j (by decide) (by decide) (by decide) (by decide) (by decide) (by decide)
    have g16 : ∀ j, f.2.1 16 c j = y.2.1 16 c j := fun j => fo 16 c j (by decide) (by decide) (by decide) (by decide) (by decide) (by decide)
    have g17 : ∀ j, f.2.1 17 c j = y.2.1 17 c j := fun j => fo 17 c j (by decide) (by decide) (by decide) (by decide) (by decide) (by decide)
    unfold RCd
    rw [g14, g14, g14, g17, g17]
    by_cases hcn : c = s.1 2
    · subst hcn
      rw [y14, y14, y14]
      refine ⟨⟨xn, hx, ex⟩, Or.inl rfl, fun g hg => Or.inl (by rw [g16, y16 g hg]), fun w => absurd rfl w, fun w => absurd (show (1 : Int32) = 3 from w) n13, fun w => absurd (show (0 : Int32) = 3 from w) (by decide)⟩
    · have u : ∀ t j, ¬ t = 2 → y.2.1 t c j = s.2.1 t c j := fun t j ht => yo t c j ht (fun z => hcn z.1)
      obtain ⟨w1, w2, w3, w4⟩ := hCr c (by omega)
      rw [u 14 1 (by decide), u 14 2 (by decide), u 14 3 (by decide), u 17 0 (by decide), u 17 1 (by decide)]
      exact ⟨w1, w2, fun g hg => by rw [g16, u 16 g (by decide)]; exact w3 g hg, w4⟩
  · -- RCf
    intro c hc
    rw [m2] at hc
    obtain ⟨w1, w2, w3⟩ := hCf c (by omega)
    rw [fo 44 0 c (by decide) (by decide) (by decide) (by decide) (by decide) (by decide), hz 44 0 c (by decide), fo 47 0 c (by decide) (by decide) (by decide) (by decide) (by decide) (by decide), hz 47 0 c (by decide)]
    exact ⟨w1, w2, fun g hg => by rw [fo 46 0 _ (by decide) (by decide) (by decide) (by decide) (by decide) (by decide), hz 46 0 _ (by decide)]; exact w3 g hg⟩
end Cau

