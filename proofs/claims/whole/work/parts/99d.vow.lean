/-! class and model alike: a vow -/
section Vow
variable {D : Nat} {s : Sg}
theorem lh_o {z : Sg} {p q : Int32} (h1 : ∀ b c, z.2.1 1 b c = s.2.1 1 b c) (h6 : ∀ b c, z.2.1 6 b c = s.2.1 6 b c) (h8 : ∀ b c, z.2.1 8 b c = s.2.1 8 b c) (h12 : ∀ b c, z.2.1 12 b c = s.2.1 12 b c) : lhC z p q = lhC s p q := by
  have e6 : ∀ b, z.2.1 6 b = s.2.1 6 b := fun b => funext (h6 b)
  unfold lhC lh3 lh2 lh1 aoy ilC dgC
  simp only [h1, h8, h12, e6]
theorem vow_2 {p q a f : Int32} {t i j : Nat} : (vowS s p q a f).2.1 t i j = if t = 2 ∧ i = 1 ∧ j = 0 then (vowT s p q a f).2.1 2 1 0 + 1 else (vowT s p q a f).2.1 t i j := by
  unfold vowS
  rw [addS_2]
  rfl
theorem vowT_o {p q a f : Int32} {t i j : Nat} (h : ¬ (t = 13 ∧ i = s.1 1)) : (vowT s p q a f).2.1 t i j = s.2.1 t i j := by
  unfold vowT viC
  have e : ∀ t' i' j' v' (z : Sg), t' = 13 → i' = s.1 1 → (stS z t' i' j' v').2.1 t i j = z.2.1 t i j := fun t' i' j' v' z k1 k2 => by
    rw [stS_get, if_neg (fun w => h ⟨w.1.trans k1, w.2.1.trans k2⟩)]
  rw [e _ _ _ _ _ rfl rfl, e _ _ _ _ _ rfl rfl, e _ _ _ _ _ rfl rfl, e _ _ _ _ _ rfl rfl, e _ _ _ _ _ rfl rfl, e _ _ _ _ _ rfl rfl, e _ _ _ _ _ rfl rfl, e _ _ _ _ _ rfl rfl]
  show (if t = 12 + 1 ∧ i = s.1 1 then 0 else s.2.1 t i j) = _
  rw [if_neg h]
theorem vowT_13 {p q a f : Int32} : (vowT s p q a f).2.1 13 (s.1 1) 0 = p ∧ (vowT s p q a f).2.1 13 (s.1 1) 1 = q ∧ (vowT s p q a f).2.1 13 (s.1 1) 2 = a ∧ (vowT s p q a f).2.1 13 (s.1 1) 3 = s.2.1 1 0 7 ∧ (vowT s p q a f).2.1 13 (s.1 1) 4 = lhC s p q ∧ (vowT s p q a f).2.1 13 (s.1 1) 5 = f ∧ (vowT s p q a f).2.1 13 (s.1 1) 6 = 0 ∧ (vowT s p q a f).2.1 13 (s.1 1) 7 = -1 := by
  have el : lhC (newS s 1 1) p q = lhC s p q := lh_o (fun b c => rfl) (fun b c => rfl) (fun b c => rfl) (fun b c => rfl)
  have et : (newS s 1 1).2.1 1 0 7 = s.2.1 1 0 7 := rfl
  unfold vowT viC
  rw [el, et]
  refine ⟨?_, ?_, ?_, ?_, ?_, ?_, ?_, ?_⟩
  all_goals simp [stS_get]
theorem al_vow {p q a w : Int32} (hDb : D ≤ 10000000) (h : Rl D s) : alI sp_L_vow [aR 1 0, aI p, aI q, aI a, aI w, aR 60 0] sp_X5_vow [aR 20 0, aI p, aI q, aI a, aI w] D s := by
  have hM := Rl_M h
  have hip := Rl_p h (p := p)
  have hiq := Rl_p h (p := q)
  have hir : (¬ p = q ∧ (0 ≤ a ∧ a < 8) ∧ (0 ≤ w ∧ w < 6)) ↔ (¬ p = q ∧ inR a 0 7 ∧ inR w 0 5) := by rw [rg_iff, rg_iff, lt8, lt6]
  refine ⟨rfl, Rl_CI h, Rl_GI h, fun hn => ⟨1, rfl, hM, f3_1 (fun z => hn (hip.mpr z.1)) (okI_th (by decide) h)⟩, fun hp => ⟨fun hn => ⟨1, rfl, hM, f3_1 (fun z => hn (hiq.mpr z.2)) (okI_th (by decide) h)⟩, fun hq => ⟨fun hn => ⟨2, rfl, hM, f3_2 ⟨hip.mp hp, hiq.mp hq⟩ (fun z => hn (hir.mpr z)) (okI_th (by decide) h)⟩, fun hr => ?_⟩⟩⟩
  have hip' : isP s p ∧ isP s q := ⟨hip.mp hp, hiq.mp hq⟩
  have hir' := hir.mp hr
  obtain ⟨i, hi, rfl, ci⟩ := Rl_pn h hp
  obtain ⟨j, hj, rfl, cj⟩ := Rl_pn h hq
  have hij : ¬ i = j := fun z => hr.1 (by rw [z])
  have h24 := (Rl_n h).1
  have h30 := (Rl_n h).2.1
  have h302 := (Rl_n h).2.2
  have e12 := h.1.2.2.2.2.1.2.1
  have hday := Rl_day h
  have rp := h.2.1 i hi
  have rq := h.2.1 j hj
  have h3 : nI (s.1 1) < 30 ↔ ¬ 30 ≤ s.2.1 20 0 12 := by rw [e12]; exact Int32.not_le.symm
  have hmv : (mayV s (nI i) ∧ mayV s (nI j) ∧ nI (s.1 1) < 30) ↔ voP s (nI i) (nI j) := by
    unfold mayV voP
    rw [ci, cj, h3, rp.2.2.2.2.1, rq.2.2.2.2.1]
    rcases rp.2.2.2.2.2 with ⟨u1, u2⟩ | ⟨u1, u2⟩ <;> rcases rq.2.2.2.2.2 with ⟨v1, v2⟩ | ⟨v1, v2⟩ <;> rw [u1, u2, v1, v2] <;> simp
    exact ⟨fun ⟨x, y, z⟩ => ⟨z, x, y⟩, fun ⟨x, y, z⟩ => ⟨y, z, x⟩⟩
  refine ⟨fun hn => ⟨3, rfl, hM, f3_3 hip' hir' (fun z => hn (hmv.mpr z)) (okI_th (by decide) h)⟩, fun hv => ?_⟩
  have hvo := hmv.mp hv
  have hlt : s.1 1 < 30 := (nI_ltI (by omega) (by decide)).mp (show nI (s.1 1) < nI 30 from hv.2.2)
  obtain ⟨an, han, rfl⟩ := rg_nI (N := 7) hir'.2.1 rfl
  obtain ⟨wn, hwn, rfl⟩ := rg_nI (N := 5) hir'.2.2 rfl
  have ca : cl (nI an) = an := nI_clamp (by omega)
  have cw : cl (nI wn) = wn := nI_clamp (by omega)
  have c8 : cl (8 * nI wn + nI an) = 8 * wn + an := by
    show (nI 8 * nI wn + nI an).toNatClampNeg = _
    rw [nIm, nI_add, nI_clamp (by omega)]
  have hlk : (wantsF s (nI i) (nI j) ∧ ¬ hasF s (nI an) (nI wn)) ↔ lkP s (nI i) (nI j) (nI an) (nI wn) := by
    unfold wantsF hasF lkP
    rw [ci, cj, ca, cw, c8, rp.2.2.1, rq.2.2.1, hday, h.2.2.2.2.2.1 wn an (by omega) (by omega), h.2.2.2.2.1 an (by omega), not_or, Classical.not_not]
  have hlh := lh_eq hDb h hi hj hij
  have fin : ∀ f : Int32, iteP (lkP s (nI i) (nI j) (nI an) (nI wn)) 1 0 = f → ∃ kk, some (aI 0) = some (aI kk) ∧ sp_X5_vow [aR 20 0, aI (nI i), aI (nI j), aI (nI an), aI (nI wn)] (stO (vowS s (nI i) (nI j) (nI an) f) (nI ((vowS s (nI i) (nI j) (nI an) f).1 1) - 1).toInt64) (okI D kk) (fun _ _ => False) := by
    intro fl hfl
    obtain ⟨y, hy⟩ : ∃ y, y = vowS s (nI i) (nI j) (nI an) fl := ⟨_, rfl⟩
    have gd1 := CI_1 (Rl_CI h)
    obtain ⟨n1, no, nz, hGy, hg1⟩ := add_cnt (z := stS (vowT s (nI i) (nI j) (nI an) fl) 2 1 0 ((vowT s (nI i) (nI j) (nI an) fl).2.1 2 1 0 + 1)) (s := s) (a := 1) (by decide) (fun c hc => show (newS s 1 1).1 c = s.1 c from stC_ne hc) (Rl_GI h) gd1 h30
    rw [show addS (stS (vowT s (nI i) (nI j) (nI an) fl) 2 1 0 ((vowT s (nI i) (nI j) (nI an) fl).2.1 2 1 0 + 1)) 1 = y from hy.symm] at n1 no nz hGy hg1
    have n0 := no 0 (by decide) (by decide)
    have n2 := no 2 (by decide) (by decide)
    have yo : ∀ t i j, ¬ t = 2 → ¬ (t = 13 ∧ i = s.1 1) → y.2.1 t i j = s.2.1 t i j := fun t i j k1 k2 => by
      rw [hy, vow_2, if_neg (fun w => k1 w.1), vowT_o k2]
    have y13 : ∀ c, y.2.1 13 (s.1 1) c = (vowT s (nI i) (nI j) (nI an) fl).2.1 13 (s.1 1) c := fun c => by rw [hy, vow_2, if_neg (fun w => absurd w.1 (by decide))]
    obtain ⟨t0, t1, t2, t3, t4, t5, t6, t7⟩ := vowT_13 (s := s) (p := nI i) (q := nI j) (a := nI an) (f := fl)
    have hz : ∀ t i j, 20 ≤ t → y.2.1 t i j = s.2.1 t i j := fun t i j ht => yo t i j (by omega) (fun w => by omega)
    have hxr : nI (y.1 1) - 1 = nI (s.1 1) := by rw [n1, nI_pred]
    rw [← hy, hxr]
    obtain ⟨z, hzz⟩ : ∃ z, z = stO y (nI (s.1 1)).toInt64 := ⟨_, rfl⟩
    rw [← hzz]
    have zz : ∀ t i j, 20 ≤ t → z.2.1 t i j = s.2.1 t i j := fun t i j ht => by rw [hzz]; exact hz t i j ht
    have hMz : MI z := MI_e (zz 20 0 1 (by decide)) (zz 20 0 12 (by decide)) (zz 20 0 21 (by decide)) hM
    have hpz : isP z (nI i) ∧ isP z (nI j) := by
      unfold isP
      rw [zz 20 0 1 (by decide)]
      exact hip'
    have hvz : voP z (nI i) (nI j) := by
      unfold voP at hvo ⊢
      rw [zz 20 0 12 (by decide), zz 27 0 _ (by decide), zz 27 0 _ (by decide), zz 26 0 _ (by decide), zz 26 0 _ (by decide)]
      exact hvo
    have ekp : kepM z (nI i) (nI j) = kepM s (nI i) (nI j) := by
      have e1 : npm z = npm s := by unfold npm; rw [zz 20 0 1 (by decide)]
      have e2 : ∀ u, mrow z u = mrow s u := fun u => by funext w; unfold mrow; rw [zz 28 0 _ (by decide)]
      have e3 : kinM z (nI i) (nI j) = kinM s (nI i) (nI j) := by unfold kinM; rw [e1, e2, e2]
      have e4 : ∀ A, ykP z (nI i) (nI j) A = ykP s (nI i) (nI j) A := fun A => by unfold ykP; rw [zz 20 0 0 (by decide), zz 22 0 _ (by decide), zz 22 0 _ (by decide)]
      have e5 : hndM z (nI i) (nI j) = hndM s (nI i) (nI j) := by unfold hndM; rw [e3, e4, zz 25 0 _ (by decide), zz 25 0 _ (by decide)]
      unfold kepM mk1
      rw [e5, zz 29 0 _ (by decide), zz 29 0 _ (by decide), zz 29 0 _ (by decide)]
    have elk : lkP z (nI i) (nI j) (nI an) (nI wn) = lkP s (nI i) (nI j) (nI an) (nI wn) := by
      unfold lkP
      rw [zz 24 0 _ (by decide), zz 24 0 _ (by decide), zz 20 0 0 (by decide), zz 30 0 _ (by decide), zz 31 0 _ (by decide)]
    have enz : nvm z = s.1 1 := by
      rw [← Rl_nvm h]
      unfold nvm
      rw [zz 20 0 12 (by decide)]
    refine ⟨0, rfl, hMz, f3_0 hpz hir' hvz ?_⟩
    unfold voM
    rw [enz, zz 20 0 12 (by decide), e12, zz 20 0 0 (by decide), hday, elk, hfl, ekp, ← hlh.1]
    obtain ⟨f, hf⟩ : ∃ f, f = stS (stS (stS (stS (stS (stS (stS (stS (th z 0) 33 0 (s.1 1) (nI i)) 34 0 (s.1 1) (nI j)) 35 0 (s.1 1) (nI an)) 36 0 (s.1 1) (s.2.1 1 0 7)) 37 0 (s.1 1) fl) 40 0 (s.1 1) (-1)) 38 0 (s.1 1) (lhC s (nI i) (nI j))) 20 0 12 (nI (s.1 1) + 1) := ⟨_, rfl⟩
    have fo2 : f.2.2 = (nI (s.1 1)).toInt64 := by rw [hf, hzz]; rfl
    have f32 : f.2.1 20 0 32 = 0 := by rw [hf]; simp [stS_get]
    rw [← hf]
    have f1 : f.1 = y.1 := by rw [hf, hzz]; rfl
    have fo : ∀ t i j, (¬ t = 20) → (¬ (33 ≤ t ∧ t ≤ 40)) → f.2.1 t i j = y.2.1 t i j := fun t i j k1 k2 => by
      have a1 : ¬ t = 33 := by omega
      have a2 : ¬ t = 34 := by omega
      have a3 : ¬ t = 35 := by omega
      have a4 : ¬ t = 36 := by omega
      have a5 : ¬ t = 37 := by omega
      have a6 : ¬ t = 38 := by omega
      have a7 : ¬ t = 40 := by omega
      rw [hf, hzz]
      simp [stS_get, stO, k1, a1, a2, a3, a4, a5, a6, a7]
    have f20 : ∀ j, ¬ j = 12 → ¬ j = 32 → f.2.1 20 0 j = s.2.1 20 0 j := fun j k1 k2 => by
      rw [hf]
      simp [stS_get, k1, k2, zz 20 0 j (by decide)]
    have f12 : f.2.1 20 0 12 = nI (s.1 1 + 1) := by
      rw [hf, ← nIs]
      simp [stS_get]
    have fs : ∀ t i j, (¬ t = 2) → (¬ t = 20) → (¬ t = 13) → (¬ (33 ≤ t ∧ t ≤ 40)) → f.2.1 t i j = s.2.1 t i j := fun t i j k1 k2 k3 k4 => by
      rw [fo t i j k2 k4, yo t i j k1 (fun w => k3 w.1)]
    have agf : ∀ kk : Nat → Nat → Nat → Bool, (∀ a b c, kk a b c = true → (¬ a = 2) ∧ (¬ a = 20) ∧ (¬ a = 13) ∧ (¬ (33 ≤ a ∧ a ≤ 40))) → ag kk s f := fun kk hk a b c ha => by
      obtain ⟨k1, k2, k3, k4⟩ := hk a b c ha
      exact fs a b c k1 k2 k3 k4
    have m0 : f.1 0 = s.1 0 := by rw [f1]; exact n0.1
    have m1 : f.1 1 = s.1 1 + 1 := by rw [f1]; exact n1
    have m2 : f.1 2 = s.1 2 := by rw [f1]; exact n2.1
    refine ⟨?_, f32, nI (s.1 1), rfl, fun _ => fo2⟩
    have hv0 : ∀ w, w < s.1 1 → iC s 0 (s.2.1 13 w 0) ∧ iC s 0 (s.2.1 13 w 1) := fun w hw => Rl_v0 h hw
    have hc0 : ∀ w, w < s.1 2 → iC s 1 (s.2.1 14 w 0) := fun w hw => Rl_c0 h hw
    have gs0 := CI_0 (Rl_CI h)
    have gs2 := CI_2 (Rl_CI h)
    have hgy := of_eq_true hGy
    obtain ⟨h0, hP, hPf, hB, hE, hU, hD, hS, hV, hVf, hVl, hC, hCr, hCf⟩ := h
    obtain ⟨a1, a2, a3, a4, a5, dy, hdy, d1, d2⟩ := h0
    refine ⟨⟨?_, ?_, ?_, ?_, ?_, dy, hdy, ?_, ?_⟩, RPs_ag m0 (agf _ ?_) hP, RPf_ag m0 (agf _ ?_) hPf, RB_ag m0 (agf _ ?_) hB, REr_ag (agf _ ?_) hE, RUn_ag (agf _ ?_) hU, RDs_ag (agf _ ?_) hD, RSt_ag m0 (agf _ ?_) hS, ?_, ?_, ?_, RCs_ag m2 (agf _ ?_) hC, RCr_ag m2 (agf _ ?_) hCr, RCf_ag m2 (agf _ ?_) hCf⟩
    · refine CI_mk9 (Gd_o m0 (by rw [f1]; exact n0.2) gs0) (by unfold Gd at hg1 ⊢; rw [f1]; exact hg1) (Gd_o m2 (by rw [f1]; exact n2.2) gs2) (by rw [m0]; exact h24) (fun w hw => ?_) (fun w hw => ?_)
      · rw [show f.1 7 = 0 from by rw [f1]; exact hgy.1.2.1, m1] at hw
        rw [fo 13 w 0 (by decide) (by decide), fo 13 w 1 (by decide) (by decide)]
        by_cases hw2 : w = s.1 1
        · rw [hw2, y13, y13, t0, t1]
          exact ⟨iC_up (by rw [m0]; exact Nat.le_refl _) (by rw [m0]; omega) hp, iC_up (by rw [m0]; exact Nat.le_refl _) (by rw [m0]; omega) hq⟩
        · rw [yo 13 w 0 (by decide) (fun z => hw2 z.2), yo 13 w 1 (by decide) (fun z => hw2 z.2)]
          exact ⟨iC_up (by rw [m0]; exact Nat.le_refl _) (by rw [m0]; omega) (hv0 w (by omega)).1, iC_up (by rw [m0]; exact Nat.le_refl _) (by rw [m0]; omega) (hv0 w (by omega)).2⟩
      · rw [show f.1 8 = 0 from by rw [f1]; exact hgy.1.2.2, m2] at hw
        rw [fs 14 w 0 (by decide) (by decide) (by decide) (by decide)]
        exact iC_up (by rw [m1]; omega) (by rw [m1]; omega) (hc0 w (by omega))
    · unfold GI at hGy ⊢
      rw [f1]
      exact hGy
    · refine eq_true ⟨⟨s.1 0, h24, ?_⟩, ⟨s.1 1 + 1, by omega, f12⟩, ⟨s.1 2, h302, ?_⟩⟩
      · rw [f20 1 (by decide) (by decide)]; exact a5.1
      · rw [f20 21 (by decide) (by decide)]; exact a5.2.2
    · rw [f1]
      exact ⟨nz.1.trans a4.1, nz.2.trans a4.2.1, by rw [n0.1]; exact h24, by rw [n1]; omega, by rw [n2.1]; exact h302⟩
    · rw [m0, m1, m2, f12, f20 1 (by decide) (by decide), f20 21 (by decide) (by decide)]
      exact ⟨a5.1, rfl, a5.2.2⟩
    · rw [fs 1 0 7 (by decide) (by decide) (by decide) (by decide)]; exact d1
    · rw [f20 0 (by decide) (by decide)]; exact d2
    · intro a b c hk; unfold kP at hk; simp only [Bool.or_eq_true, Bool.and_eq_true, Nat.beq_eq, Nat.ble_eq] at hk; omega
    · intro a b c hk; unfold kP at hk; simp only [Bool.or_eq_true, Bool.and_eq_true, Nat.beq_eq, Nat.ble_eq] at hk; omega
    · intro a b c hk; unfold kB at hk; simp only [Bool.or_eq_true, Bool.and_eq_true, Nat.beq_eq, Nat.ble_eq] at hk; omega
    · intro a b c hk; unfold kE at hk; simp only [Bool.or_eq_true, Bool.and_eq_true, Nat.beq_eq, Nat.ble_eq] at hk; omega
    · intro a b c hk; unfold kU at hk; simp only [Bool.or_eq_true, Bool.and_eq_true, Nat.beq_eq, Nat.ble_eq] at hk; omega
    · intro a b c hk; unfold kD at hk; simp only [Bool.or_eq_true, Bool.and_eq_true, Nat.beq_eq, Nat.ble_eq] at hk; omega
    · intro a b c hk; unfold kS at hk; simp only [Bool.or_eq_true, Bool.and_eq_true, Nat.beq_eq, Nat.ble_eq] at hk; omega
    · -- RVs
      intro v hvv
      rw [m1] at hvv
      have g13 : ∀ c, f.2.1 13 v c = y.2.1 13 v c := fun c => fo 13 v c (by decide) (by decide)
      unfold RVv
      rw [g13, g13, g13, g13, g13, g13, g13, g13]
      by_cases hv2 : v = s.1 1
      · subst hv2
        have b33 : f.2.1 33 0 (s.1 1) = nI i := by rw [hf]; simp [stS_get]
        have b34 : f.2.1 34 0 (s.1 1) = nI j := by rw [hf]; simp [stS_get]
        have b35 : f.2.1 35 0 (s.1 1) = nI an := by rw [hf]; simp [stS_get]
        have b36 : f.2.1 36 0 (s.1 1) = s.2.1 1 0 7 := by rw [hf]; simp [stS_get]
        have b37 : f.2.1 37 0 (s.1 1) = fl := by rw [hf]; simp [stS_get]
        have b38 : f.2.1 38 0 (s.1 1) = lhC s (nI i) (nI j) := by rw [hf]; simp [stS_get]
        have b39 : f.2.1 39 0 (s.1 1) = 0 := by rw [hf]; simp [stS_get, zz 39 0 _ (by decide)]; exact hVf _ (Nat.le_refl _)
        have b40 : f.2.1 40 0 (s.1 1) = -1 := by rw [hf]; simp [stS_get]
        rw [b33, b34, b35, b36, b37, b38, b39, b40, y13, y13, y13, y13, y13, y13, y13, y13, t0, t1, t2, t3, t4, t5, t6, t7]
        exact ⟨⟨rfl, rfl, rfl, rfl⟩, ⟨rfl, rfl, rfl, rfl⟩, hlh.2.1⟩
      · have h8 := hV v (by omega)
        unfold RVv at h8
        have g : ∀ t, 33 ≤ t ∧ t ≤ 40 → f.2.1 t 0 v = s.2.1 t 0 v := fun t ht => by
          have h20 : ¬ t = 20 := by omega
          rw [hf]
          simp [stS_get, hv2, h20]
          exact zz t 0 v (by omega)
        have u : ∀ c, y.2.1 13 v c = s.2.1 13 v c := fun c => yo 13 v c (by decide) (fun z => hv2 z.2)
        rw [u, u, u, u, u, u, u, u, g 33 (by decide), g 34 (by decide), g 35 (by decide), g 36 (by decide), g 37 (by decide), g 38 (by decide), g 39 (by decide), g 40 (by decide)]
        exact h8
    · -- RVf
      intro v hvv
      rw [m1] at hvv
      have h9 := hVf v (by omega)
      rw [hf]
      simp [stS_get, zz 39 0 v (by decide)]
      exact h9
    · -- RVl
      intro v hvv
      rw [m1] at hvv
      have g13 : ∀ c, f.2.1 13 v c = y.2.1 13 v c := fun c => fo 13 v c (by decide) (by decide)
      have g12 : ∀ b c, f.2.1 12 b c = s.2.1 12 b c := fun b c => fs 12 b c (by decide) (by decide) (by decide) (by decide)
      rw [g13, g13, g13, g12, g12]
      by_cases hv2 : v = s.1 1
      · subst hv2
        rw [y13, y13, y13, t0, t1]
        exact fun _ => ⟨hv.1.1, hv.2.1.1⟩
      · rw [yo 13 v 0 (by decide) (fun z => hv2 z.2), yo 13 v 1 (by decide) (fun z => hv2 z.2), yo 13 v 6 (by decide) (fun z => hv2 z.2)]
        exact hVl v (by omega)
    · intro a b c hk; unfold kC at hk; simp only [Bool.or_eq_true, Bool.and_eq_true, Nat.beq_eq, Nat.ble_eq] at hk; omega
    · intro a b c hk; unfold kC at hk; simp only [Bool.or_eq_true, Bool.and_eq_true, Nat.beq_eq, Nat.ble_eq] at hk; omega
    · intro a b c hk; unfold kC at hk; simp only [Bool.or_eq_true, Bool.and_eq_true, Nat.beq_eq, Nat.ble_eq] at hk; omega
  exact ⟨fun hw => fin 1 (iteP_t (hlk.mp hw)), fun hw => fin 0 (iteP_f (fun z => hw (hlk.mpr z)))⟩
end Vow

