/-! class and model alike: causes -/
theorem i32_ora (x y d : Int32) : (x ||| y) &&& d = (x &&& d) ||| (y &&& d) := Int32.toBitVec_inj.1 BitVec.and_or_distrib_right
theorem bit_1 : ∀ d, d < 128 → ∀ g, g < 7 → ((1 : Int32) <<< (nI g &&& 31)) &&& nI d = (if (nI d >>> (nI g &&& 31)) &&& 1 = 1 then (1 : Int32) <<< (nI g &&& 31) else 0) := by decide +kernel
theorem bit_2 : ∀ d, d < 128 → ∀ g, g < 7 → ((¬ nI d &&& ((1 : Int32) <<< (nI g &&& 31)) = 0) ↔ (nI d >>> (nI g &&& 31)) &&& 1 = 1) := by decide +kernel
theorem pr_g {d : Nat} {w w' : Nat → Int32} (hd : d < 128) : ∀ g, g ≤ 7 → (∀ k, k < g → w' k = w k) → pgR w g &&& nI d = prvR (nI d) w' g
  | 0, _, _ => by
    show (0 : Int32) &&& nI d = 0
    simp
  | g + 1, hg, hw => by
    have ih := pr_g (w := w) (w' := w') hd g (by omega) (fun k hk => hw k (by omega))
    rw [pgR, prvR, ← ih, hw g (by omega)]
    by_cases h6 : w g < 6
    · rw [if_pos h6]
      split
      · rw [or0]
      · rw [or0]
    · rw [if_neg h6, i32_ora, bit_1 d hd g (by omega)]
      split <;> rfl
section Caus
variable {D : Nat} {s : Sg}
theorem pr_eq (h : Rl D s) {q : Nat} (hq : q < s.1 2) : prC s q = prM s q := by
  obtain ⟨⟨a1, a2, a3, a4⟩, hw, -⟩ := h.2.2.2.2.2.2.2.2.2.2.2.1 q hq
  obtain ⟨⟨d, hd, e⟩, -⟩ := h.2.2.2.2.2.2.2.2.2.2.2.2.1 q hq
  unfold prC prM
  rw [a2, e]
  exact pr_g hd 7 (Nat.le_refl _) (fun k hk => hw k hk)
theorem al_causeOf {c k : Int32} (h : Rl D s) : alI sp_L_causeOf [aR 1 0, aI c, aI k, aR 60 0] sp_X5_causeOf [aR 20 0, aI c, aI k] D s := by
  have hM := Rl_M h
  have hip := Rl_c h (p := c)
  have hir : (0 ≤ k ∧ k < 7) ↔ inR k 0 6 := by rw [rg_iff, lt7]
  refine ⟨rfl, Rl_CI h, fun hn => ⟨1, rfl, hM, f2_1 (fun q => hn (hip.mpr q)) (okI_th (by decide) h)⟩, fun hp => ⟨fun hn => ⟨2, rfl, hM, f2_2 (hip.mp hp) (fun q => hn (hir.mpr q)) (okI_th (by decide) h)⟩, fun hr => ?_⟩⟩
  have hip' := hip.mp hp
  have hir' := hir.mp hr
  obtain ⟨q, hq, rfl, hcq⟩ := Rl_cn h hp
  obtain ⟨⟨a1, a2, a3, a4⟩, -, -, hs3, hvc⟩ := h.2.2.2.2.2.2.2.2.2.2.2.1 q hq
  rw [← hcq] at a1 a2 a3 a4 hvc
  refine ⟨fun e => ⟨0, rfl, hM, f2_0 hip' hir' ?_⟩, fun e => ⟨0, rfl, hM, f2_0 hip' hir' ?_⟩, fun e => ⟨0, rfl, hM, f2_0 hip' hir' ?_⟩, fun e => ⟨0, rfl, hM, f2_0 hip' hir' ?_⟩, fun e0 e1 e2 e6 => ⟨0, rfl, hM, f2_0 hip' hir' ?_⟩⟩
  · subst e
    exact ⟨fun _ => okI_q h a3.symm, fun q => absurd q (by decide), fun q => absurd q (by decide), fun q => absurd q (by decide), fun q => absurd rfl q⟩
  · subst e
    exact ⟨fun q => absurd q (by decide), fun _ => okI_q h a4.symm, fun q => absurd q (by decide), fun q => absurd q (by decide), fun _ q => absurd rfl q⟩
  · subst e
    exact ⟨fun q => absurd q (by decide), fun q => absurd q (by decide), fun _ => okI_q h a2.symm, fun q => absurd q (by decide), fun _ _ q => absurd rfl q⟩
  · subst e
    exact ⟨fun q => absurd q (by decide), fun q => absurd q (by decide), fun q => absurd q (by decide), fun _ => okI_q h hvc.symm, fun _ _ _ q => absurd rfl q⟩
  · refine ⟨fun q => absurd q e0, fun q => absurd q e1, fun q => absurd q e2, fun q => absurd q e6, fun _ _ _ _ => okI_q h ?_⟩
    obtain ⟨j, hj, rfl⟩ := rg_nI (N := 6) hir' rfl
    have j0 : j ≠ 0 := by rintro rfl; exact e0 rfl
    have j1 : j ≠ 1 := by rintro rfl; exact e1 rfl
    have j2 : j ≠ 2 := by rintro rfl; exact e2 rfl
    have j6 : j ≠ 6 := by rintro rfl; exact e6 rfl
    have h30 := (Rl_n h).2.2
    have c1 : cl (nI j - 3) = j - 3 := by
      rw [show (3 : Int32) = nI 3 from rfl, pk_sub (by omega)]
      exact nI_clamp (by omega)
    have c2 : cl (3 * nI q + nI j - 3) = 3 * q + (j - 3) := by
      rw [show (3 : Int32) = nI 3 from rfl, nIm, nI_add, pk_sub (by omega), show 3 * q + j - 3 = 3 * q + (j - 3) by omega]
      exact nI_clamp (by omega)
    show s.2.1 17 (cl (nI q)) (cl (nI j - 3)) = s.2.1 49 0 (cl (3 * nI q + nI j - 3))
    rw [c1, c2, hcq, hs3 (j - 3) (by omega)]
theorem e7 {z q g k : Nat} (hg : g < 7) (hk : k < 7) : 7 * z + g = 7 * q + k ↔ z = q ∧ g = k := by omega
theorem e3 {z q g k : Nat} (hg : g < 3) (hk : k < 3) : 3 * z + g = 3 * q + k ↔ z = q ∧ g = k := by omega
theorem al_proof {c k w : Int32} (h : Rl D s) : alI sp_L_proof [aR 1 0, aI c, aI k, aI w, aR 60 0] sp_X5_proof [aR 20 0, aI c, aI k, aI w] D s := by
  have hM := Rl_M h
  have hip := Rl_c h (p := c)
  have hik : (0 ≤ k ∧ k < 7) ↔ inR k 0 6 := by rw [rg_iff, lt7]
  have hiw : (-10 ≤ w ∧ w ≤ 10) ↔ inR w (-10) 10 := rg_iff.symm
  refine ⟨rfl, Rl_CI h, fun hn => ⟨1, rfl, hM, f3_1 (fun q => hn (hip.mpr q)) (okI_th (by decide) h)⟩, fun hp => ⟨fun hn => ⟨2, rfl, hM, f3_2 (hip.mp hp) (fun q => hn (hik.mpr q.1)) (okI_th (by decide) h)⟩, fun hr => ⟨fun hn => ⟨2, rfl, hM, f3_2 (hip.mp hp) (fun q => hn (hiw.mpr q.2)) (okI_th (by decide) h)⟩, fun hw => ?_⟩⟩⟩
  have hip' := hip.mp hp
  have hir' : inR k 0 6 ∧ inR w (-10) 10 := ⟨hik.mp hr, hiw.mp hw⟩
  obtain ⟨q, hq, rfl, hcq⟩ := Rl_cn h hp
  obtain ⟨j, hj, rfl⟩ := rg_nI (N := 6) hir'.1 rfl
  have h30 := (Rl_n h).2.2
  have cj : cl (nI j) = j := nI_clamp (by omega)
  have c7 : cl (7 * nI q + nI j) = 7 * q + j := by
    rw [show (7 : Int32) = nI 7 from rfl, nIm, nI_add]
    exact nI_clamp (by omega)
  obtain ⟨⟨a1, a2, a3, a4⟩, hwt, -⟩ := h.2.2.2.2.2.2.2.2.2.2.2.1 q hq
  obtain ⟨⟨d, hd, e⟩, -⟩ := h.2.2.2.2.2.2.2.2.2.2.2.2.1 q hq
  have hx : pwC s (nI q) (nI j) w = s.2.1 46 0 (cl (7 * nI q + nI j)) + w := by
    unfold pwC
    rw [hcq, cj, c7, hwt j (by omega)]
  have hb : (s.2.1 14 (cl (nI q)) 2 = 0 ∧ ¬ s.2.1 14 (cl (nI q)) 1 &&& (1 <<< (nI j &&& 31)) = 0) ↔ (s.2.1 44 0 (cl (nI q)) = 0 ∧ (s.2.1 43 0 (cl (nI q)) >>> (nI j &&& 31)) &&& 1 = 1) := by
    rw [hcq, a3, a2, e, bit_2 d hd j (by omega)]
  have hi : (-1000 ≤ pwC s (nI q) (nI j) w ∧ pwC s (nI q) (nI j) w ≤ 1000) ↔ inR (s.2.1 46 0 (cl (7 * nI q + nI j)) + w) (-1000) 1000 := by rw [hx, rg_iff]
  refine ⟨fun hn => ⟨3, rfl, hM, f3_3 hip' hir' (fun z => hn (hb.mpr ⟨z.1, z.2.1⟩)) (okI_th (by decide) h)⟩, fun h1 => ⟨fun hn => ⟨3, rfl, hM, f3_3 hip' hir' (fun z => hn (hi.mpr z.2.2)) (okI_th (by decide) h)⟩, fun h2 => ?_⟩⟩
  obtain ⟨x, hxx⟩ : ∃ x, x = pwC s (nI q) (nI j) w := ⟨_, rfl⟩
  have h2' := hi.mp h2
  rw [← hxx] at hx ⊢
  refine ⟨0, rfl, MI_ag (s := s) (by repeat' (first | (with_reducible refine ag_st ?_ ?_) | (with_reducible refine ag_O ?_) | (with_reducible refine ag_R ?_ ?_) | (with_reducible refine ag_I ?_ ?_) | (with_reducible refine ag_F ?_ ?_) | (with_reducible refine ag_tw ?_ ?_ ?_) | (with_reducible refine ag_die ?_ ?_ ?_) | (with_reducible refine ag_ev ?_ ?_ ?_ _) | (with_reducible exact ag_rf) | (exact rfl) | (exact fun _ => rfl))) hM, f3_0 hip' hir' ⟨(hb.mp h1).1, (hb.mp h1).2, h2'⟩ ⟨?_, (by first | rfl | (simp [stS_get, stR_get]; done)), x, ?_, fun _ => rfl⟩⟩
  · show Rl D (stS (th (stO (stS s 15 (cl (nI q)) (cl (nI j)) x) x.toInt64) 0) 46 0 (cl (7 * nI q + nI j)) (s.2.1 46 0 (cl (7 * nI q + nI j)) + w))
    rw [← hx, hcq, cj, c7]
    obtain ⟨h0, hP, hPf, hB, hE, hU, hD, hS, hV, hVf, hVl, hC, hCr, hCf⟩ := h
    refine ⟨R0_ag (s := s) rfl (by repeat' (first | (with_reducible refine ag_st ?_ ?_) | (with_reducible refine ag_O ?_) | (with_reducible refine ag_R ?_ ?_) | (with_reducible refine ag_I ?_ ?_) | (with_reducible refine ag_F ?_ ?_) | (with_reducible refine ag_tw ?_ ?_ ?_) | (with_reducible refine ag_die ?_ ?_ ?_) | (with_reducible refine ag_ev ?_ ?_ ?_ _) | (with_reducible exact ag_rf) | (exact rfl) | (exact fun _ => rfl))) h0, RPs_ag (s := s) rfl (by repeat' (first | (with_reducible refine ag_st ?_ ?_) | (with_reducible refine ag_O ?_) | (with_reducible refine ag_R ?_ ?_) | (with_reducible refine ag_I ?_ ?_) | (with_reducible refine ag_F ?_ ?_) | (with_reducible refine ag_tw ?_ ?_ ?_) | (with_reducible refine ag_die ?_ ?_ ?_) | (with_reducible refine ag_ev ?_ ?_ ?_ _) | (with_reducible exact ag_rf) | (exact rfl) | (exact fun _ => rfl))) hP, RPf_ag (s := s) rfl (by repeat' (first | (with_reducible refine ag_st ?_ ?_) | (with_reducible refine ag_O ?_) | (with_reducible refine ag_R ?_ ?_) | (with_reducible refine ag_I ?_ ?_) | (with_reducible refine ag_F ?_ ?_) | (with_reducible refine ag_tw ?_ ?_ ?_) | (with_reducible refine ag_die ?_ ?_ ?_) | (with_reducible refine ag_ev ?_ ?_ ?_ _) | (with_reducible exact ag_rf) | (exact rfl) | (exact fun _ => rfl))) hPf, RB_ag (s := s) rfl (by repeat' (first | (with_reducible refine ag_st ?_ ?_) | (with_reducible refine ag_O ?_) | (with_reducible refine ag_R ?_ ?_) | (with_reducible refine ag_I ?_ ?_) | (with_reducible refine ag_F ?_ ?_) | (with_reducible refine ag_tw ?_ ?_ ?_) | (with_reducible refine ag_die ?_ ?_ ?_) | (with_reducible refine ag_ev ?_ ?_ ?_ _) | (with_reducible exact ag_rf) | (exact rfl) | (exact fun _ => rfl))) hB, REr_ag (s := s) (by repeat' (first | (with_reducible refine ag_st ?_ ?_) | (with_reducible refine ag_O ?_) | (with_reducible refine ag_R ?_ ?_) | (with_reducible refine ag_I ?_ ?_) | (with_reducible refine ag_F ?_ ?_) | (with_reducible refine ag_tw ?_ ?_ ?_) | (with_reducible refine ag_die ?_ ?_ ?_) | (with_reducible refine ag_ev ?_ ?_ ?_ _) | (with_reducible exact ag_rf) | (exact rfl) | (exact fun _ => rfl))) hE, RUn_ag (s := s) (by repeat' (first | (with_reducible refine ag_st ?_ ?_) | (with_reducible refine ag_O ?_) | (with_reducible refine ag_R ?_ ?_) | (with_reducible refine ag_I ?_ ?_) | (with_reducible refine ag_F ?_ ?_) | (with_reducible refine ag_tw ?_ ?_ ?_) | (with_reducible refine ag_die ?_ ?_ ?_) | (with_reducible refine ag_ev ?_ ?_ ?_ _) | (with_reducible exact ag_rf) | (exact rfl) | (exact fun _ => rfl))) hU, RDs_ag (s := s) (by repeat' (first | (with_reducible refine ag_st ?_ ?_) | (with_reducible refine ag_O ?_) | (with_reducible refine ag_R ?_ ?_) | (with_reducible refine ag_I ?_ ?_) | (with_reducible refine ag_F ?_ ?_) | (with_reducible refine ag_tw ?_ ?_ ?_) | (with_reducible refine ag_die ?_ ?_ ?_) | (with_reducible refine ag_ev ?_ ?_ ?_ _) | (with_reducible exact ag_rf) | (exact rfl) | (exact fun _ => rfl))) hD, RSt_ag (s := s) rfl (by repeat' (first | (with_reducible refine ag_st ?_ ?_) | (with_reducible refine ag_O ?_) | (with_reducible refine ag_R ?_ ?_) | (with_reducible refine ag_I ?_ ?_) | (with_reducible refine ag_F ?_ ?_) | (with_reducible refine ag_tw ?_ ?_ ?_) | (with_reducible refine ag_die ?_ ?_ ?_) | (with_reducible refine ag_ev ?_ ?_ ?_ _) | (with_reducible exact ag_rf) | (exact rfl) | (exact fun _ => rfl))) hS, RVs_ag (s := s) rfl (by repeat' (first | (with_reducible refine ag_st ?_ ?_) | (with_reducible refine ag_O ?_) | (with_reducible refine ag_R ?_ ?_) | (with_reducible refine ag_I ?_ ?_) | (with_reducible refine ag_F ?_ ?_) | (with_reducible refine ag_tw ?_ ?_ ?_) | (with_reducible refine ag_die ?_ ?_ ?_) | (with_reducible refine ag_ev ?_ ?_ ?_ _) | (with_reducible exact ag_rf) | (exact rfl) | (exact fun _ => rfl))) hV, RVf_ag (s := s) rfl (by repeat' (first | (with_reducible refine ag_st ?_ ?_) | (with_reducible refine ag_O ?_) | (with_reducible refine ag_R ?_ ?_) | (with_reducible refine ag_I ?_ ?_) | (with_reducible refine ag_F ?_ ?_) | (with_reducible refine ag_tw ?_ ?_ ?_) | (with_reducible refine ag_die ?_ ?_ ?_) | (with_reducible refine ag_ev ?_ ?_ ?_ _) | (with_reducible exact ag_rf) | (exact rfl) | (exact fun _ => rfl))) hVf, RVl_ag (s := s) rfl (by repeat' (first | (with_reducible refine ag_st ?_ ?_) | (with_reducible refine ag_O ?_) | (with_reducible refine ag_R ?_ ?_) | (with_reducible refine ag_I ?_ ?_) | (with_reducible refine ag_F ?_ ?_) | (with_reducible refine ag_tw ?_ ?_ ?_) | (with_reducible refine ag_die ?_ ?_ ?_) | (with_reducible refine ag_ev ?_ ?_ ?_ _) | (with_reducible exact ag_rf) | (exact rfl) | (exact fun _ => rfl))) hVl, ?_, ?_, ?_⟩
    · intro z hz
      obtain ⟨b1, b2, b3, b4, b5⟩ := hC z hz
      refine ⟨b1, fun g hg => ?_, b3, b4, b5⟩
      have h9 := b2 g hg
      simp only [stS_get, stO, e7 hg (show j < 7 by omega)]
      by_cases hz : z = q ∧ g = j
      · simp [hz]
      · simpa [hz] using h9
    · intro z hz
      exact hCr z hz
    · intro z hz
      obtain ⟨b1, b2, b3⟩ := hCf z hz
      refine ⟨b1, b2, fun g hg => ?_⟩
      have hzq : ¬ z = q := by have hz : s.1 2 ≤ z := hz; omega
      have h9 := b3 g hg
      simp only [stS_get, stO, e7 hg (show j < 7 by omega)]
      simpa [hzq] using h9
  · show some (aI (s.2.1 46 0 (cl (7 * nI q + nI j)) + w)) = _
    rw [← hx]
theorem al_publish {c : Int32} (h : Rl D s) : alI sp_L_publish [aR 1 0, aI c, aR 60 0] sp_X5_publish [aR 20 0, aI c] D s := by
  have hM := Rl_M h
  have hip := Rl_c h (p := c)
  refine ⟨rfl, Rl_CI h, fun hn => ⟨1, rfl, hM, f2_1 (fun q => hn (hip.mpr q)) (okI_th (by decide) h)⟩, fun hp => ?_⟩
  have hip' := hip.mp hp
  obtain ⟨q, hq, rfl, hcq⟩ := Rl_cn h hp
  have a3 := (h.2.2.2.2.2.2.2.2.2.2.2.1 q hq).1.2.2.1
  rw [← hcq] at a3
  refine ⟨fun hn => ⟨2, rfl, hM, f2_2 hip' (fun z => hn (a3.symm.trans z)) (okI_th (by decide) h)⟩, fun hr => ?_⟩
  have e1 : prC (stS s 14 (cl (nI q)) 2 1) (cl (nI q)) = prM s q := by
    rw [hcq, ← pr_eq h hq]
    unfold prC
    simp [stS_get]
    rfl
  rw [e1]
  have e2 : prM (stO (stS s 14 (cl (nI q)) 2 1) (prM s q).toInt64) (cl (nI q)) = prM s q := by rw [hcq]; rfl
  refine ⟨0, rfl, MI_ag (s := s) (by repeat' (first | (with_reducible refine ag_st ?_ ?_) | (with_reducible refine ag_O ?_) | (with_reducible refine ag_R ?_ ?_) | (with_reducible refine ag_I ?_ ?_) | (with_reducible refine ag_F ?_ ?_) | (with_reducible refine ag_tw ?_ ?_ ?_) | (with_reducible refine ag_die ?_ ?_ ?_) | (with_reducible refine ag_ev ?_ ?_ ?_ _) | (with_reducible exact ag_rf) | (exact rfl) | (exact fun _ => rfl))) hM, f2_0 hip' (a3.trans hr) ?_⟩
  rw [e2]
  refine ⟨?_, (by first | rfl | (simp [stS_get, stR_get]; done)), _, rfl, fun _ => rfl⟩
  rw [hcq]
  obtain ⟨h0, hP, hPf, hB, hE, hU, hD, hS, hV, hVf, hVl, hC, hCr, hCf⟩ := h
  refine ⟨R0_ag (s := s) rfl (by repeat' (first | (with_reducible refine ag_st ?_ ?_) | (with_reducible refine ag_O ?_) | (with_reducible refine ag_R ?_ ?_) | (with_reducible refine ag_I ?_ ?_) | (with_reducible refine ag_F ?_ ?_) | (with_reducible refine ag_tw ?_ ?_ ?_) | (with_reducible refine ag_die ?_ ?_ ?_) | (with_reducible refine ag_ev ?_ ?_ ?_ _) | (with_reducible exact ag_rf) | (exact rfl) | (exact fun _ => rfl))) h0, RPs_ag (s := s) rfl (by repeat' (first | (with_reducible refine ag_st ?_ ?_) | (with_reducible refine ag_O ?_) | (with_reducible refine ag_R ?_ ?_) | (with_reducible refine ag_I ?_ ?_) | (with_reducible refine ag_F ?_ ?_) | (with_reducible refine ag_tw ?_ ?_ ?_) | (with_reducible refine ag_die ?_ ?_ ?_) | (with_reducible refine ag_ev ?_ ?_ ?_ _) | (with_reducible exact ag_rf) | (exact rfl) | (exact fun _ => rfl))) hP, RPf_ag (s := s) rfl (by repeat' (first | (with_reducible refine ag_st ?_ ?_) | (with_reducible refine ag_O ?_) | (with_reducible refine ag_R ?_ ?_) | (with_reducible refine ag_I ?_ ?_) | (with_reducible refine ag_F ?_ ?_) | (with_reducible refine ag_tw ?_ ?_ ?_) | (with_reducible refine ag_die ?_ ?_ ?_) | (with_reducible refine ag_ev ?_ ?_ ?_ _) | (with_reducible exact ag_rf) | (exact rfl) | (exact fun _ => rfl))) hPf, RB_ag (s := s) rfl (by repeat' (first | (with_reducible refine ag_st ?_ ?_) | (with_reducible refine ag_O ?_) | (with_reducible refine ag_R ?_ ?_) | (with_reducible refine ag_I ?_ ?_) | (with_reducible refine ag_F ?_ ?_) | (with_reducible refine ag_tw ?_ ?_ ?_) | (with_reducible refine ag_die ?_ ?_ ?_) | (with_reducible refine ag_ev ?_ ?_ ?_ _) | (with_reducible exact ag_rf) | (exact rfl) | (exact fun _ => rfl))) hB, REr_ag (s := s) (by repeat' (first | (with_reducible refine ag_st ?_ ?_) | (with_reducible refine ag_O ?_) | (with_reducible refine ag_R ?_ ?_) | (with_reducible refine ag_I ?_ ?_) | (with_reducible refine ag_F ?_ ?_) | (with_reducible refine ag_tw ?_ ?_ ?_) | (with_reducible refine ag_die ?_ ?_ ?_) | (with_reducible refine ag_ev ?_ ?_ ?_ _) | (with_reducible exact ag_rf) | (exact rfl) | (exact fun _ => rfl))) hE, RUn_ag (s := s) (by repeat' (first | (with_reducible refine ag_st ?_ ?_) | (with_reducible refine ag_O ?_) | (with_reducible refine ag_R ?_ ?_) | (with_reducible refine ag_I ?_ ?_) | (with_reducible refine ag_F ?_ ?_) | (with_reducible refine ag_tw ?_ ?_ ?_) | (with_reducible refine ag_die ?_ ?_ ?_) | (with_reducible refine ag_ev ?_ ?_ ?_ _) | (with_reducible exact ag_rf) | (exact rfl) | (exact fun _ => rfl))) hU, RDs_ag (s := s) (by repeat' (first | (with_reducible refine ag_st ?_ ?_) | (with_reducible refine ag_O ?_) | (with_reducible refine ag_R ?_ ?_) | (with_reducible refine ag_I ?_ ?_) | (with_reducible refine ag_F ?_ ?_) | (with_reducible refine ag_tw ?_ ?_ ?_) | (with_reducible refine ag_die ?_ ?_ ?_) | (with_reducible refine ag_ev ?_ ?_ ?_ _) | (with_reducible exact ag_rf) | (exact rfl) | (exact fun _ => rfl))) hD, RSt_ag (s := s) rfl (by repeat' (first | (with_reducible refine ag_st ?_ ?_) | (with_reducible refine ag_O ?_) | (with_reducible refine ag_R ?_ ?_) | (with_reducible refine ag_I ?_ ?_) | (with_reducible refine ag_F ?_ ?_) | (with_reducible refine ag_tw ?_ ?_ ?_) | (with_reducible refine ag_die ?_ ?_ ?_) | (with_reducible refine ag_ev ?_ ?_ ?_ _) | (with_reducible exact ag_rf) | (exact rfl) | (exact fun _ => rfl))) hS, RVs_ag (s := s) rfl (by repeat' (first | (with_reducible refine ag_st ?_ ?_) | (with_reducible refine ag_O ?_) | (with_reducible refine ag_R ?_ ?_) | (with_reducible refine ag_I ?_ ?_) | (with_reducible refine ag_F ?_ ?_) | (with_reducible refine ag_tw ?_ ?_ ?_) | (with_reducible refine ag_die ?_ ?_ ?_) | (with_reducible refine ag_ev ?_ ?_ ?_ _) | (with_reducible exact ag_rf) | (exact rfl) | (exact fun _ => rfl))) hV, RVf_ag (s := s) rfl (by repeat' (first | (with_reducible refine ag_st ?_ ?_) | (with_reducible refine ag_O ?_) | (with_reducible refine ag_R ?_ ?_) | (with_reducible refine ag_I ?_ ?_) | (with_reducible refine ag_F ?_ ?_) | (with_reducible refine ag_tw ?_ ?_ ?_) | (with_reducible refine ag_die ?_ ?_ ?_) | (with_reducible refine ag_ev ?_ ?_ ?_ _) | (with_reducible exact ag_rf) | (exact rfl) | (exact fun _ => rfl))) hVf, RVl_ag (s := s) rfl (by repeat' (first | (with_reducible refine ag_st ?_ ?_) | (with_reducible refine ag_O ?_) | (with_reducible refine ag_R ?_ ?_) | (with_reducible refine ag_I ?_ ?_) | (with_reducible refine ag_F ?_ ?_) | (with_reducible refine ag_tw ?_ ?_ ?_) | (with_reducible refine ag_die ?_ ?_ ?_) | (with_reducible refine ag_ev ?_ ?_ ?_ _) | (with_reducible exact ag_rf) | (exact rfl) | (exact fun _ => rfl))) hVl, ?_, ?_, ?_⟩
  · intro z hz
    obtain ⟨⟨b1, b1', b1'', b1'''⟩, b2, b3, b4, b5⟩ := hC z hz
    refine ⟨⟨?_, ?_, ?_, ?_⟩, b2, b3, b4, b5⟩
    · simpa [stS_get, stO] using b1
    · simpa [stS_get, stO] using b1'
    · by_cases hzq : z = q
      · simp [stS_get, stO, hzq]
      · simpa [stS_get, stO, hzq] using b1''
    · simpa [stS_get, stO] using b1'''
  · intro z hz
    have h8 := hCr z hz
    unfold RCd at h8 ⊢
    by_cases hzq : z = q
    · subst hzq
      simp [stS_get, stO]
      exact ⟨h8.1, h8.2.1, h8.2.2.1, h8.2.2.2.1, h8.2.2.2.2.1⟩
    · simpa [stS_get, stO, hzq] using h8
  · intro z hz
    have h8 := hCf z hz
    have hzq : ¬ z = q := by have hz : s.1 2 ≤ z := hz; omega
    simpa [stS_get, stO, hzq] using h8
theorem vc_add {a b c g : Int32} (hg : ¬ g = -1) : (a = -1 → (vc1 g + vc1 b) + vc1 c = (vc1 a + vc1 b) + vc1 c + 1) ∧ (b = -1 → (vc1 a + vc1 g) + vc1 c = (vc1 a + vc1 b) + vc1 c + 1) ∧ (c = -1 → (vc1 a + vc1 b) + vc1 g = (vc1 a + vc1 b) + vc1 c + 1) := by
  unfold vc1
  rw [if_neg hg]
  refine ⟨fun e => ?_, fun e => ?_, fun e => ?_⟩
  all_goals rw [if_pos e]
  all_goals split <;> split <;> rfl
theorem al_vote {c j g : Int32} (h : Rl D s) : alI sp_L_vote [aR 1 0, aI c, aI j, aI g, aR 60 0] sp_X5_vote [aR 20 0, aI c, aI j, aI g] D s := by
  have hM := Rl_M h
  have hip := Rl_c h (p := c)
  have hij : (0 ≤ j ∧ j < 3) ↔ inR j 0 2 := by rw [rg_iff, lt3]
  have hig : (0 ≤ g ∧ g ≤ 127) ↔ inR g 0 127 := rg_iff.symm
  refine ⟨rfl, Rl_CI h, fun hn => ⟨1, rfl, hM, f3_1 (fun q => hn (hip.mpr q.1)) (okI_th (by decide) h)⟩, fun hp => ⟨fun hn => ⟨1, rfl, hM, f3_1 (fun q => hn (hij.mpr q.2)) (okI_th (by decide) h)⟩, fun hj => ⟨fun hn => ⟨2, rfl, hM, f3_2 ⟨hip.mp hp, hij.mp hj⟩ (fun q => hn (hig.mpr q)) (okI_th (by decide) h)⟩, fun hg => ?_⟩⟩⟩
  have hip' : isC s c ∧ inR j 0 2 := ⟨hip.mp hp, hij.mp hj⟩
  have hir' := hig.mp hg
  obtain ⟨q, hq, rfl, hcq⟩ := Rl_cn h hp
  obtain ⟨i, hi, rfl⟩ := rg_nI (N := 2) hip'.2 rfl
  obtain ⟨n, hn, rfl⟩ := rg_nI (N := 127) hir' rfl
  have h30 := (Rl_n h).2.2
  have ci : cl (nI i) = i := nI_clamp (by omega)
  have c3 : cl (3 * nI q + nI i) = 3 * q + i := by
    rw [row3k]
    exact nI_clamp (by omega)
  obtain ⟨⟨a1, a2, a3, a4⟩, -, hvt, -, hvc⟩ := h.2.2.2.2.2.2.2.2.2.2.2.1 q hq
  have hpr := pr_eq h hq
  have hb : ((s.2.1 14 (cl (nI q)) 2 = 1 ∧ s.2.1 16 (cl (nI q)) (cl (nI i)) = -1) ∧ nI n &&& (prC s (cl (nI q)) ^^^ -1) = 0) ↔ vtP s (nI q) (nI i) (nI n) := by
    unfold vtP
    rw [hcq, ci, c3, a3, hvt i (by omega), hpr, and_assoc]
  refine ⟨fun hz => ⟨3, rfl, hM, f3_3 hip' hir' (fun z => hz (hb.mpr z).1) (okI_th (by decide) h)⟩, fun h1 => ⟨fun hz => ⟨3, rfl, hM, f3_3 hip' hir' (fun z => hz (hb.mpr z).2) (okI_th (by decide) h)⟩, fun h2 => ?_⟩⟩
  have hn1 : ¬ nI n = -1 := fun z => by
    have := congrArg Int32.toInt z
    rw [nI_toInt (by omega), show (-1 : Int32).toInt = -1 from rfl] at this
    omega
  have h16 : s.2.1 16 q i = -1 := by have := h1.2; rwa [hcq, ci] at this
  have hv : vcC (stS s 16 q i (nI n)) q = vcC s q + 1 := by
    have hva := vc_add (a := s.2.1 16 q 0) (b := s.2.1 16 q 1) (c := s.2.1 16 q 2) hn1
    unfold vcC
    have i3 : i = 0 ∨ i = 1 ∨ i = 2 := by omega
    rcases i3 with rfl | rfl | rfl
    · simpa [stS_get] using hva.1 h16
    · simpa [stS_get] using hva.2.1 h16
    · simpa [stS_get] using hva.2.2 h16
  rw [hcq, ci, hv]
  refine ⟨0, rfl, MI_ag (s := s) (by repeat' (first | (with_reducible refine ag_st ?_ ?_) | (with_reducible refine ag_O ?_) | (with_reducible refine ag_R ?_ ?_) | (with_reducible refine ag_I ?_ ?_) | (with_reducible refine ag_F ?_ ?_) | (with_reducible refine ag_tw ?_ ?_ ?_) | (with_reducible refine ag_die ?_ ?_ ?_) | (with_reducible refine ag_ev ?_ ?_ ?_ _) | (with_reducible exact ag_rf) | (exact rfl) | (exact fun _ => rfl))) hM, f3_0 hip' hir' (hb.mp ⟨h1, h2⟩) ⟨?_, (by first | rfl | (simp [stS_get, stR_get]; done)), vcC s q + 1, ?_, fun _ => rfl⟩⟩
  · show Rl D (stS (stS (th (stO (stS s 16 q i (nI n)) (vcC s q + 1).toInt64) 0) 48 0 (cl (3 * nI q + nI i)) (nI n)) 47 0 (cl (nI q)) (s.2.1 47 0 (cl (nI q)) + 1))
    rw [hcq, c3, hvc]
    obtain ⟨h0, hP, hPf, hB, hE, hU, hD, hS, hV, hVf, hVl, hC, hCr, hCf⟩ := h
    refine ⟨R0_ag (s := s) rfl (by repeat' (first | (with_reducible refine ag_st ?_ ?_) | (with_reducible refine ag_O ?_) | (with_reducible refine ag_R ?_ ?_) | (with_reducible refine ag_I ?_ ?_) | (with_reducible refine ag_F ?_ ?_) | (with_reducible refine ag_tw ?_ ?_ ?_) | (with_reducible refine ag_die ?_ ?_ ?_) | (with_reducible refine ag_ev ?_ ?_ ?_ _) | (with_reducible exact ag_rf) | (exact rfl) | (exact fun _ => rfl))) h0, RPs_ag (s := s) rfl (by repeat' (first | (with_reducible refine ag_st ?_ ?_) | (with_reducible refine ag_O ?_) | (with_reducible refine ag_R ?_ ?_) | (with_reducible refine ag_I ?_ ?_) | (with_reducible refine ag_F ?_ ?_) | (with_reducible refine ag_tw ?_ ?_ ?_) | (with_reducible refine ag_die ?_ ?_ ?_) | (with_reducible refine ag_ev ?_ ?_ ?_ _) | (with_reducible exact ag_rf) | (exact rfl) | (exact fun _ => rfl))) hP, RPf_ag (s := s) rfl (by repeat' (first | (with_reducible refine ag_st ?_ ?_) | (with_reducible refine ag_O ?_) | (with_reducible refine ag_R ?_ ?_) | (with_reducible refine ag_I ?_ ?_) | (with_reducible refine ag_F ?_ ?_) | (with_reducible refine ag_tw ?_ ?_ ?_) | (with_reducible refine ag_die ?_ ?_ ?_) | (with_reducible refine ag_ev ?_ ?_ ?_ _) | (with_reducible exact ag_rf) | (exact rfl) | (exact fun _ => rfl))) hPf, RB_ag (s := s) rfl (by repeat' (first | (with_reducible refine ag_st ?_ ?_) | (with_reducible refine ag_O ?_) | (with_reducible refine ag_R ?_ ?_) | (with_reducible refine ag_I ?_ ?_) | (with_reducible refine ag_F ?_ ?_) | (with_reducible refine ag_tw ?_ ?_ ?_) | (with_reducible refine ag_die ?_ ?_ ?_) | (with_reducible refine ag_ev ?_ ?_ ?_ _) | (with_reducible exact ag_rf) | (exact rfl) | (exact fun _ => rfl))) hB, REr_ag (s := s) (by repeat' (first | (with_reducible refine ag_st ?_ ?_) | (with_reducible refine ag_O ?_) | (with_reducible refine ag_R ?_ ?_) | (with_reducible refine ag_I ?_ ?_) | (with_reducible refine ag_F ?_ ?_) | (with_reducible refine ag_tw ?_ ?_ ?_) | (with_reducible refine ag_die ?_ ?_ ?_) | (with_reducible refine ag_ev ?_ ?_ ?_ _) | (with_reducible exact ag_rf) | (exact rfl) | (exact fun _ => rfl))) hE, RUn_ag (s := s) (by repeat' (first | (with_reducible refine ag_st ?_ ?_) | (with_reducible refine ag_O ?_) | (with_reducible refine ag_R ?_ ?_) | (with_reducible refine ag_I ?_ ?_) | (with_reducible refine ag_F ?_ ?_) | (with_reducible refine ag_tw ?_ ?_ ?_) | (with_reducible refine ag_die ?_ ?_ ?_) | (with_reducible refine ag_ev ?_ ?_ ?_ _) | (with_reducible exact ag_rf) | (exact rfl) | (exact fun _ => rfl))) hU, RDs_ag (s := s) (by repeat' (first | (with_reducible refine ag_st ?_ ?_) | (with_reducible refine ag_O ?_) | (with_reducible refine ag_R ?_ ?_) | (with_reducible refine ag_I ?_ ?_) | (with_reducible refine ag_F ?_ ?_) | (with_reducible refine ag_tw ?_ ?_ ?_) | (with_reducible refine ag_die ?_ ?_ ?_) | (with_reducible refine ag_ev ?_ ?_ ?_ _) | (with_reducible exact ag_rf) | (exact rfl) | (exact fun _ => rfl))) hD, RSt_ag (s := s) rfl (by repeat' (first | (with_reducible refine ag_st ?_ ?_) | (with_reducible refine ag_O ?_) | (with_reducible refine ag_R ?_ ?_) | (with_reducible refine ag_I ?_ ?_) | (with_reducible refine ag_F ?_ ?_) | (with_reducible refine ag_tw ?_ ?_ ?_) | (with_reducible refine ag_die ?_ ?_ ?_) | (with_reducible refine ag_ev ?_ ?_ ?_ _) | (with_reducible exact ag_rf) | (exact rfl) | (exact fun _ => rfl))) hS, RVs_ag (s := s) rfl (by repeat' (first | (with_reducible refine ag_st ?_ ?_) | (with_reducible refine ag_O ?_) | (with_reducible refine ag_R ?_ ?_) | (with_reducible refine ag_I ?_ ?_) | (with_reducible refine ag_F ?_ ?_) | (with_reducible refine ag_tw ?_ ?_ ?_) | (with_reducible refine ag_die ?_ ?_ ?_) | (with_reducible refine ag_ev ?_ ?_ ?_ _) | (with_reducible exact ag_rf) | (exact rfl) | (exact fun _ => rfl))) hV, RVf_ag (s := s) rfl (by repeat' (first | (with_reducible refine ag_st ?_ ?_) | (with_reducible refine ag_O ?_) | (with_reducible refine ag_R ?_ ?_) | (with_reducible refine ag_I ?_ ?_) | (with_reducible refine ag_F ?_ ?_) | (with_reducible refine ag_tw ?_ ?_ ?_) | (with_reducible refine ag_die ?_ ?_ ?_) | (with_reducible refine ag_ev ?_ ?_ ?_ _) | (with_reducible exact ag_rf) | (exact rfl) | (exact fun _ => rfl))) hVf, RVl_ag (s := s) rfl (by repeat' (first | (with_reducible refine ag_st ?_ ?_) | (with_reducible refine ag_O ?_) | (with_reducible refine ag_R ?_ ?_) | (with_reducible refine ag_I ?_ ?_) | (with_reducible refine ag_F ?_ ?_) | (with_reducible refine ag_tw ?_ ?_ ?_) | (with_reducible refine ag_die ?_ ?_ ?_) | (with_reducible refine ag_ev ?_ ?_ ?_ _) | (with_reducible exact ag_rf) | (exact rfl) | (exact fun _ => rfl))) hVl, ?_, ?_, ?_⟩
    · intro z hz
      obtain ⟨b1, b2, b3, b4, b5⟩ := hC z hz
      refine ⟨b1, b2, fun g hg => ?_, b4, ?_⟩
      · have h9 := b3 g hg
        simp only [stS_get, stO, e3 hg (show i < 3 by omega)]
        by_cases hz : z = q ∧ g = i
        · simp [hz]
        · simpa [hz] using h9
      · by_cases hzq : z = q
        · subst hzq
          refine Eq.trans ?_ hv.symm
          simp [stS_get, stO]
        · unfold vcC at b5 ⊢
          simpa [stS_get, stO, hzq] using b5
    · intro z hz
      obtain ⟨b1, b2, b3, b4⟩ := hCr z hz
      refine ⟨b1, b2, fun g hg => ?_, b4⟩
      have h9 := b3 g hg
      by_cases hz : z = q ∧ g = i
      · refine Or.inr ⟨n, by omega, ?_⟩
        simp [stS_get, stO, hz]
      · simpa [stS_get, stO, hz] using h9
    · intro z hz
      have h8 := hCf z hz
      have hzq : ¬ z = q := by have hz : s.1 2 ≤ z := hz; omega
      simpa [stS_get, stO, hzq] using h8
  · show some (aI (s.2.1 47 0 (cl (nI q)) + 1)) = _
    rw [hcq, hvc]
end Caus

