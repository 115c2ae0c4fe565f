/-! class and model alike: sentences, appeals -/
section Sent
variable {D : Nat} {s : Sg}
theorem sen_C {y : Sg} {q j : Nat} {d st ins : Int32} (hj : j < 3) (hd : rn d) (hq : q < s.1 2) (hC : RCs s) (hCr : RCr s) (hCf : RCf s) (n2 : y.1 2 = s.1 2) (h42 : ∀ z, y.2.1 42 0 z = s.2.1 42 0 z) (h43 : ∀ z, y.2.1 43 0 z = s.2.1 43 0 z) (h46 : ∀ z, y.2.1 46 0 z = s.2.1 46 0 z) (h15 : ∀ z g, y.2.1 15 z g = s.2.1 15 z g)
    (h44 : ∀ z, y.2.1 44 0 z = if z = q then st else s.2.1 44 0 z) (h45 : ∀ z, y.2.1 45 0 z = if z = q then ins else s.2.1 45 0 z) (h14 : ∀ z c, y.2.1 14 z c = if z = q ∧ c = 2 then st else if z = q ∧ c = 3 then ins else s.2.1 14 z c)
    (h49 : ∀ i, y.2.1 49 0 i = if i = 3 * q + j then d else s.2.1 49 0 i) (h17 : ∀ z c, y.2.1 17 z c = if z = q ∧ c = j then d else s.2.1 17 z c)
    (hv : ((∀ z g, g < 3 → y.2.1 48 0 (3 * z + g) = s.2.1 48 0 (3 * z + g) ∧ y.2.1 16 z g = s.2.1 16 z g) ∧ ∀ z, y.2.1 47 0 z = s.2.1 47 0 z) ∨ ((∀ z g, g < 3 → y.2.1 48 0 (3 * z + g) = (if z = q then -1 else s.2.1 48 0 (3 * z + g)) ∧ y.2.1 16 z g = (if z = q then -1 else s.2.1 16 z g)) ∧ ∀ z, y.2.1 47 0 z = if z = q then 0 else s.2.1 47 0 z))
    (hins : ins = 1 ∨ ins = 2 ∨ ins = 3) (k0 : (¬ ins = 1 ∨ st = 3) → j = 0 ∨ rn (s.2.1 17 q 0)) (k1 : ins = 3 → j = 1 ∨ rn (s.2.1 17 q 1)) : RCs y ∧ RCr y ∧ RCf y := by
  refine ⟨fun z hz => ?_, fun z hz => ?_, fun z hz => ?_⟩
  · obtain ⟨⟨a1, a2, a3, a4⟩, b2, b3, b4, b5⟩ := hC z (by rw [← n2]; exact hz)
    refine ⟨⟨?_, ?_, ?_, ?_⟩, fun g hg => ?_, fun g hg => ?_, fun g hg => ?_, ?_⟩
    · rw [h42, h14, if_neg (fun w => absurd w.2 (by decide)), if_neg (fun w => absurd w.2 (by decide))]; exact a1
    · rw [h43, h14, if_neg (fun w => absurd w.2 (by decide)), if_neg (fun w => absurd w.2 (by decide))]; exact a2
    · rw [h44, h14]
      by_cases hzq : z = q
      · simp [hzq]
      · simpa [hzq] using a3
    · rw [h45, h14]
      by_cases hzq : z = q
      · simp [hzq]
      · simpa [hzq] using a4
    · rw [h46, h15]; exact b2 g hg
    · rcases hv with ⟨hv, -⟩ | ⟨hv, -⟩
      · rw [(hv z g hg).1, (hv z g hg).2]; exact b3 g hg
      · rw [(hv z g hg).1, (hv z g hg).2]
        by_cases hzq : z = q
        · rw [if_pos hzq, if_pos hzq]
        · rw [if_neg hzq, if_neg hzq]; exact b3 g hg
    · rw [h49, h17]
      by_cases hzg : z = q ∧ g = j
      · rw [if_pos ((e3 hg hj).mpr hzg), if_pos hzg]
      · rw [if_neg (fun w => hzg ((e3 hg hj).mp w)), if_neg hzg]; exact b4 g hg
    · unfold vcC at b5 ⊢
      rcases hv with ⟨hv, hv'⟩ | ⟨hv, hv'⟩
      · rw [hv', (hv z 0 (by decide)).2, (hv z 1 (by decide)).2, (hv z 2 (by decide)).2]; exact b5
      · rw [hv', (hv z 0 (by decide)).2, (hv z 1 (by decide)).2, (hv z 2 (by decide)).2]
        by_cases hzq : z = q
        · simp only [if_pos hzq]
          rfl
        · simp only [if_neg hzq]; exact b5
  · obtain ⟨a1, a2, a3, a4, a5, a6⟩ := hCr z (by rw [← n2]; exact hz)
    have e1 : y.2.1 14 z 1 = s.2.1 14 z 1 := by rw [h14, if_neg (fun w => absurd w.2 (by decide)), if_neg (fun w => absurd w.2 (by decide))]
    by_cases hzq : z = q
    · subst hzq
      have e2 : y.2.1 14 z 2 = st := by rw [h14]; simp
      have e3 : y.2.1 14 z 3 = ins := by rw [h14]; simp
      have e17 : ∀ c, y.2.1 17 z c = if c = j then d else s.2.1 17 z c := fun c => by rw [h17]; simp
      have w0 : (¬ ins = 1 ∨ st = 3) → rn (y.2.1 17 z 0) := fun w => by
        rw [e17]
        by_cases hj0 : 0 = j
        · rw [if_pos hj0]; exact hd
        · rw [if_neg hj0]; exact (k0 w).resolve_left (fun e => hj0 e.symm)
      have w1 : ins = 3 → rn (y.2.1 17 z 1) := fun w => by
        rw [e17]
        by_cases hj0 : 1 = j
        · rw [if_pos hj0]; exact hd
        · rw [if_neg hj0]; exact (k1 w).resolve_left (fun e => hj0 e.symm)
      refine ⟨by rw [e1]; exact a1, by rw [e3]; exact hins, fun g hg => ?_, fun w => w0 (Or.inl (by rw [← e3]; exact w)), fun w => w1 (by rw [← e3]; exact w), fun w => w0 (Or.inr (by rw [← e2]; exact w))⟩
      rcases hv with ⟨hv, -⟩ | ⟨hv, -⟩
      · rw [(hv z g hg).2]; exact a3 g hg
      · rw [(hv z g hg).2, if_pos rfl]; exact Or.inl rfl
    · have e14 : ∀ c, y.2.1 14 z c = s.2.1 14 z c := fun c => by rw [h14, if_neg (fun w => hzq w.1), if_neg (fun w => hzq w.1)]
      have e17 : ∀ c, y.2.1 17 z c = s.2.1 17 z c := fun c => by rw [h17, if_neg (fun w => hzq w.1)]
      unfold RCd
      rw [e14, e14, e14, e17, e17]
      refine ⟨a1, a2, fun g hg => ?_, a4, a5, a6⟩
      rcases hv with ⟨hv, -⟩ | ⟨hv, -⟩
      · rw [(hv z g hg).2]; exact a3 g hg
      · rw [(hv z g hg).2, if_neg hzq]; exact a3 g hg
  · have hz' : s.1 2 ≤ z := by rw [← n2]; exact hz
    have hzq : ¬ z = q := by omega
    obtain ⟨a1, a2, a3⟩ := hCf z hz'
    refine ⟨by rw [h44, if_neg hzq]; exact a1, ?_, fun g hg => by rw [h46]; exact a3 g hg⟩
    rcases hv with ⟨-, hv⟩ | ⟨-, hv⟩
    · rw [hv]; exact a2
    · rw [hv, if_neg hzq]; exact a2
/-- a class's and a model's writes in a sentence that leaves a cause refused -/
theorem se1_Rl {q j : Nat} {d : Int32} {o : Int64} (hq : q < s.1 2) (hj : j < 3) (hd : rn d) (k0 : j = 0 ∨ rn (s.2.1 17 q 0)) (k1 : s.2.1 14 q 3 = 3 → j = 1 ∨ rn (s.2.1 17 q 1)) (h : Rl D s) : Rl D (stS (stS (th (stO (stS (stS s 17 q j d) 14 q 2 3) o) 0) 49 0 (3 * q + j) d) 44 0 q 3) := by
  obtain ⟨h0, hP, hPf, hB, hE, hU, hD, hS, hV, hVf, hVl, hC, hCr, hCf⟩ := h
  obtain ⟨⟨a1, a2, a3, a4⟩, -⟩ := hC q hq
  obtain ⟨r1, r2, -⟩ := hCr q hq
  obtain ⟨c1, c2, c3⟩ := sen_C (y := stS (stS (th (stO (stS (stS s 17 q j d) 14 q 2 3) o) 0) 49 0 (3 * q + j) d) 44 0 q 3) (st := 3) (ins := s.2.1 14 q 3) hj hd hq hC hCr hCf rfl (fun z => by simp [stS_get, stO]) (fun z => by simp [stS_get, stO]) (fun z => by simp [stS_get, stO]) (fun z g => by simp [stS_get, stO]) (fun z => by simp [stS_get, stO])
    (fun z => by
      by_cases hz : z = q
      · simp [stS_get, stO, hz, a4]
      · simp [stS_get, stO, hz])
    (fun z c => by
      by_cases hz : z = q
      · by_cases h2 : c = 2
        · simp [stS_get, stO, hz, h2]
        · by_cases h3 : c = 3
          · simp [stS_get, stO, hz, h3]
          · simp [stS_get, stO, hz, h2, h3]
      · simp [stS_get, stO, hz])
    (fun i => by simp [stS_get, stO]) (fun z c => by simp [stS_get, stO]) (Or.inl ⟨fun z g hg => by simp [stS_get, stO], fun z => by simp [stS_get, stO]⟩) r2 (fun _ => k0) k1
  exact ⟨R0_ag (s := s) rfl (by repeat' (first | (with_reducible refine ag_st ?_ ?_) | (with_reducible refine ag_O ?_) | (with_reducible refine ag_R ?_ ?_) | (with_reducible refine ag_I ?_ ?_) | (with_reducible refine ag_F ?_ ?_) | (with_reducible refine ag_tw ?_ ?_ ?_) | (with_reducible refine ag_die ?_ ?_ ?_) | (with_reducible refine ag_ev ?_ ?_ ?_ _) | (with_reducible exact ag_rf) | (exact rfl) | (exact fun _ => rfl))) h0, RPs_ag (s := s) rfl (by repeat' (first | (with_reducible refine ag_st ?_ ?_) | (with_reducible refine ag_O ?_) | (with_reducible refine ag_R ?_ ?_) | (with_reducible refine ag_I ?_ ?_) | (with_reducible refine ag_F ?_ ?_) | (with_reducible refine ag_tw ?_ ?_ ?_) | (with_reducible refine ag_die ?_ ?_ ?_) | (with_reducible refine ag_ev ?_ ?_ ?_ _) | (with_reducible exact ag_rf) | (exact rfl) | (exact fun _ => rfl))) hP, RPf_ag (s := s) rfl (by repeat' (first | (with_reducible refine ag_st ?_ ?_) | (with_reducible refine ag_O ?_) | (with_reducible refine ag_R ?_ ?_) | (with_reducible refine ag_I ?_ ?_) | (with_reducible refine ag_F ?_ ?_) | (with_reducible refine ag_tw ?_ ?_ ?_) | (with_reducible refine ag_die ?_ ?_ ?_) | (with_reducible refine ag_ev ?_ ?_ ?_ _) | (with_reducible exact ag_rf) | (exact rfl) | (exact fun _ => rfl))) hPf, RB_ag (s := s) rfl (by repeat' (first | (with_reducible refine ag_st ?_ ?_) | (with_reducible refine ag_O ?_) | (with_reducible refine ag_R ?_ ?_) | (with_reducible refine ag_I ?_ ?_) | (with_reducible refine ag_F ?_ ?_) | (with_reducible refine ag_tw ?_ ?_ ?_) | (with_reducible refine ag_die ?_ ?_ ?_) | (with_reducible refine ag_ev ?_ ?_ ?_ _) | (with_reducible exact ag_rf) | (exact rfl) | (exact fun _ => rfl))) hB, REr_ag (s := s) (by repeat' (first | (with_reducible refine ag_st ?_ ?_) | (with_reducible refine ag_O ?_) | (with_reducible refine ag_R ?_ ?_) | (with_reducible refine ag_I ?_ ?_) | (with_reducible refine ag_F ?_ ?_) | (with_reducible refine ag_tw ?_ ?_ ?_) | (with_reducible refine ag_die ?_ ?_ ?_) | (with_reducible refine ag_ev ?_ ?_ ?_ _) | (with_reducible exact ag_rf) | (exact rfl) | (exact fun _ => rfl))) hE, RUn_ag (s := s) (by repeat' (first | (with_reducible refine ag_st ?_ ?_) | (with_reducible refine ag_O ?_) | (with_reducible refine ag_R ?_ ?_) | (with_reducible refine ag_I ?_ ?_) | (with_reducible refine ag_F ?_ ?_) | (with_reducible refine ag_tw ?_ ?_ ?_) | (with_reducible refine ag_die ?_ ?_ ?_) | (with_reducible refine ag_ev ?_ ?_ ?_ _) | (with_reducible exact ag_rf) | (exact rfl) | (exact fun _ => rfl))) hU, RDs_ag (s := s) (by repeat' (first | (with_reducible refine ag_st ?_ ?_) | (with_reducible refine ag_O ?_) | (with_reducible refine ag_R ?_ ?_) | (with_reducible refine ag_I ?_ ?_) | (with_reducible refine ag_F ?_ ?_) | (with_reducible refine ag_tw ?_ ?_ ?_) | (with_reducible refine ag_die ?_ ?_ ?_) | (with_reducible refine ag_ev ?_ ?_ ?_ _) | (with_reducible exact ag_rf) | (exact rfl) | (exact fun _ => rfl))) hD, RSt_ag (s := s) rfl (by repeat' (first | (with_reducible refine ag_st ?_ ?_) | (with_reducible refine ag_O ?_) | (with_reducible refine ag_R ?_ ?_) | (with_reducible refine ag_I ?_ ?_) | (with_reducible refine ag_F ?_ ?_) | (with_reducible refine ag_tw ?_ ?_ ?_) | (with_reducible refine ag_die ?_ ?_ ?_) | (with_reducible refine ag_ev ?_ ?_ ?_ _) | (with_reducible exact ag_rf) | (exact rfl) | (exact fun _ => rfl))) hS, RVs_ag (s := s) rfl (by repeat' (first | (with_reducible refine ag_st ?_ ?_) | (with_reducible refine ag_O ?_) | (with_reducible refine ag_R ?_ ?_) | (with_reducible refine ag_I ?_ ?_) | (with_reducible refine ag_F ?_ ?_) | (with_reducible refine ag_tw ?_ ?_ ?_) | (with_reducible refine ag_die ?_ ?_ ?_) | (with_reducible refine ag_ev ?_ ?_ ?_ _) | (with_reducible exact ag_rf) | (exact rfl) | (exact fun _ => rfl))) hV, RVf_ag (s := s) rfl (by repeat' (first | (with_reducible refine ag_st ?_ ?_) | (with_reducible refine ag_O ?_) | (with_reducible refine ag_R ?_ ?_) | (with_reducible refine ag_I ?_ ?_) | (with_reducible refine ag_F ?_ ?_) | (with_reducible refine ag_tw ?_ ?_ ?_) | (with_reducible refine ag_die ?_ ?_ ?_) | (with_reducible refine ag_ev ?_ ?_ ?_ _) | (with_reducible exact ag_rf) | (exact rfl) | (exact fun _ => rfl))) hVf, RVl_ag (s := s) rfl (by repeat' (first | (with_reducible refine ag_st ?_ ?_) | (with_reducible refine ag_O ?_) | (with_reducible refine ag_R ?_ ?_) | (with_reducible refine ag_I ?_ ?_) | (with_reducible refine ag_F ?_ ?_) | (with_reducible refine ag_tw ?_ ?_ ?_) | (with_reducible refine ag_die ?_ ?_ ?_) | (with_reducible refine ag_ev ?_ ?_ ?_ _) | (with_reducible exact ag_rf) | (exact rfl) | (exact fun _ => rfl))) hVl, c1, c2, c3⟩
/-- .. that opens it anew -/
theorem se2_Rl {q j : Nat} {d w : Int32} {o : Int64} (hq : q < s.1 2) (hj : j < 3) (hd : rn d) (hw : s.2.1 14 q 3 + 1 = w) (hw2 : w = 2 ∨ w = 3) (k0 : j = 0 ∨ rn (s.2.1 17 q 0)) (k1 : w = 3 → j = 1 ∨ rn (s.2.1 17 q 1)) (h : Rl D s) : Rl D (opnM (stS (th (stO (reoC (stS s 17 q j d) q) o) 0) 49 0 (3 * q + j) d) q w) := by
  have hw3 : w = 1 ∨ w = 2 ∨ w = 3 := Or.inr hw2
  obtain ⟨h0, hP, hPf, hB, hE, hU, hD, hS, hV, hVf, hVl, hC, hCr, hCf⟩ := h
  obtain ⟨c1, c2, c3⟩ := sen_C (y := opnM (stS (th (stO (reoC (stS s 17 q j d) q) o) 0) 49 0 (3 * q + j) d) q w) (st := 0) (ins := w) hj hd hq hC hCr hCf rfl (fun z => by simp [opnM, reoC, stS_get, stO, stR_get, stI_get]) (fun z => by simp [opnM, reoC, stS_get, stO, stR_get, stI_get]) (fun z => by simp [opnM, reoC, stS_get, stO, stR_get, stI_get]) (fun z g => by simp [opnM, reoC, stS_get, stO, stR_get, stI_get]) (fun z => by simp [opnM, reoC, stS_get, stO, stR_get, stI_get]) (fun z => by simp [opnM, reoC, stS_get, stO, stR_get, stI_get])
    (fun z c => by
      by_cases hz : z = q
      · by_cases h2 : c = 2
        · simp [opnM, reoC, stS_get, stO, stR_get, stI_get, hz, h2]
        · by_cases h3 : c = 3
          · simp [opnM, reoC, stS_get, stO, stR_get, stI_get, hz, h3, hw]
          · simp [opnM, reoC, stS_get, stO, stR_get, stI_get, hz, h2, h3]
      · simp [opnM, reoC, stS_get, stO, stR_get, stI_get, hz])
    (fun i => by simp [opnM, reoC, stS_get, stO, stR_get, stI_get]) (fun z c => by simp [opnM, reoC, stS_get, stO, stR_get, stI_get])
    (Or.inr ⟨fun z g hg => ⟨by
      by_cases hz : z = q
      · simp [opnM, reoC, stS_get, stO, stR_get, stI_get, hz]
        omega
      · have e : ¬ (3 * q ≤ 3 * z + g ∧ 3 * z + g < 3 * q + 3) := by omega
        simp [opnM, reoC, stS_get, stO, stR_get, stI_get, hz, e], by
      by_cases hz : z = q
      · simp [opnM, reoC, stS_get, stO, stR_get, stI_get, hz, hg]
      · simp [opnM, reoC, stS_get, stO, stR_get, stI_get, hz]⟩, fun z => by simp [opnM, reoC, stS_get, stO, stR_get, stI_get]⟩) hw3 (fun _ => k0) k1
  unfold opnM reoC at c1 c2 c3 ⊢
  exact ⟨R0_ag (s := s) rfl (by repeat' (first | (with_reducible refine ag_st ?_ ?_) | (with_reducible refine ag_O ?_) | (with_reducible refine ag_R ?_ ?_) | (with_reducible refine ag_I ?_ ?_) | (with_reducible refine ag_F ?_ ?_) | (with_reducible refine ag_tw ?_ ?_ ?_) | (with_reducible refine ag_die ?_ ?_ ?_) | (with_reducible refine ag_ev ?_ ?_ ?_ _) | (with_reducible exact ag_rf) | (exact rfl) | (exact fun _ => rfl))) h0, RPs_ag (s := s) rfl (by repeat' (first | (with_reducible refine ag_st ?_ ?_) | (with_reducible refine ag_O ?_) | (with_reducible refine ag_R ?_ ?_) | (with_reducible refine ag_I ?_ ?_) | (with_reducible refine ag_F ?_ ?_) | (with_reducible refine ag_tw ?_ ?_ ?_) | (with_reducible refine ag_die ?_ ?_ ?_) | (with_reducible refine ag_ev ?_ ?_ ?_ _) | (with_reducible exact ag_rf) | (exact rfl) | (exact fun _ => rfl))) hP, RPf_ag (s := s) rfl (by repeat' (first | (with_reducible refine ag_st ?_ ?_) | (with_reducible refine ag_O ?_) | (with_reducible refine ag_R ?_ ?_) | (with_reducible refine ag_I ?_ ?_) | (with_reducible refine ag_F ?_ ?_) | (with_reducible refine ag_tw ?_ ?_ ?_) | (with_reducible refine ag_die ?_ ?_ ?_) | (with_reducible refine ag_ev ?_ ?_ ?_ _) | (with_reducible exact ag_rf) | (exact rfl) | (exact fun _ => rfl))) hPf, RB_ag (s := s) rfl (by repeat' (first | (with_reducible refine ag_st ?_ ?_) | (with_reducible refine ag_O ?_) | (with_reducible refine ag_R ?_ ?_) | (with_reducible refine ag_I ?_ ?_) | (with_reducible refine ag_F ?_ ?_) | (with_reducible refine ag_tw ?_ ?_ ?_) | (with_reducible refine ag_die ?_ ?_ ?_) | (with_reducible refine ag_ev ?_ ?_ ?_ _) | (with_reducible exact ag_rf) | (exact rfl) | (exact fun _ => rfl))) hB, REr_ag (s := s) (by repeat' (first | (with_reducible refine ag_st ?_ ?_) | (with_reducible refine ag_O ?_) | (with_reducible refine ag_R ?_ ?_) | (with_reducible refine ag_I ?_ ?_) | (with_reducible refine ag_F ?_ ?_) | (with_reducible refine ag_tw ?_ ?_ ?_) | (with_reducible refine ag_die ?_ ?_ ?_) | (with_reducible refine ag_ev ?_ ?_ ?_ _) | (with_reducible exact ag_rf) | (exact rfl) | (exact fun _ => rfl))) hE, RUn_ag (s := s) (by repeat' (first | (with_reducible refine ag_st ?_ ?_) | (with_reducible refine ag_O ?_) | (with_reducible refine ag_R ?_ ?_) | (with_reducible refine ag_I ?_ ?_) | (with_reducible refine ag_F ?_ ?_) | (with_reducible refine ag_tw ?_ ?_ ?_) | (with_reducible refine ag_die ?_ ?_ ?_) | (with_reducible refine ag_ev ?_ ?_ ?_ _) | (with_reducible exact ag_rf) | (exact rfl) | (exact fun _ => rfl))) hU, RDs_ag (s := s) (by repeat' (first | (with_reducible refine ag_st ?_ ?_) | (with_reducible refine ag_O ?_) | (with_reducible refine ag_R ?_ ?_) | (with_reducible refine ag_I ?_ ?_) | (with_reducible refine ag_F ?_ ?_) | (with_reducible refine ag_tw ?_ ?_ ?_) | (with_reducible refine ag_die ?_ ?_ ?_) | (with_reducible refine ag_ev ?_ ?_ ?_ _) | (with_reducible exact ag_rf) | (exact rfl) | (exact fun _ => rfl))) hD, RSt_ag (s := s) rfl (by repeat' (first | (with_reducible refine ag_st ?_ ?_) | (with_reducible refine ag_O ?_) | (with_reducible refine ag_R ?_ ?_) | (with_reducible refine ag_I ?_ ?_) | (with_reducible refine ag_F ?_ ?_) | (with_reducible refine ag_tw ?_ ?_ ?_) | (with_reducible refine ag_die ?_ ?_ ?_) | (with_reducible refine ag_ev ?_ ?_ ?_ _) | (with_reducible exact ag_rf) | (exact rfl) | (exact fun _ => rfl))) hS, RVs_ag (s := s) rfl (by repeat' (first | (with_reducible refine ag_st ?_ ?_) | (with_reducible refine ag_O ?_) | (with_reducible refine ag_R ?_ ?_) | (with_reducible refine ag_I ?_ ?_) | (with_reducible refine ag_F ?_ ?_) | (with_reducible refine ag_tw ?_ ?_ ?_) | (with_reducible refine ag_die ?_ ?_ ?_) | (with_reducible refine ag_ev ?_ ?_ ?_ _) | (with_reducible exact ag_rf) | (exact rfl) | (exact fun _ => rfl))) hV, RVf_ag (s := s) rfl (by repeat' (first | (with_reducible refine ag_st ?_ ?_) | (with_reducible refine ag_O ?_) | (with_reducible refine ag_R ?_ ?_) | (with_reducible refine ag_I ?_ ?_) | (with_reducible refine ag_F ?_ ?_) | (with_reducible refine ag_tw ?_ ?_ ?_) | (with_reducible refine ag_die ?_ ?_ ?_) | (with_reducible refine ag_ev ?_ ?_ ?_ _) | (with_reducible exact ag_rf) | (exact rfl) | (exact fun _ => rfl))) hVf, RVl_ag (s := s) rfl (by repeat' (first | (with_reducible refine ag_st ?_ ?_) | (with_reducible refine ag_O ?_) | (with_reducible refine ag_R ?_ ?_) | (with_reducible refine ag_I ?_ ?_) | (with_reducible refine ag_F ?_ ?_) | (with_reducible refine ag_tw ?_ ?_ ?_) | (with_reducible refine ag_die ?_ ?_ ?_) | (with_reducible refine ag_ev ?_ ?_ ?_ _) | (with_reducible exact ag_rf) | (exact rfl) | (exact fun _ => rfl))) hVl, c1, c2, c3⟩
/-- .. that annuls the vow -/
theorem se3_Rl {q j v : Nat} {d t : Int32} {o : Int64} (hq : q < s.1 2) (hj : j < 3) (hd : rn d) (hv : v < s.1 1) (k0 : ¬ s.2.1 14 q 3 = 1 → j = 0 ∨ rn (s.2.1 17 q 0)) (k1 : s.2.1 14 q 3 = 3 → j = 1 ∨ rn (s.2.1 17 q 1)) (h : Rl D s) : Rl D (stS (stS (stS (stS (th (stO (stS (stS (stS (stS s 17 q j d) 14 q 2 2) 13 v 6 1) 13 v 7 t) o) 0) 49 0 (3 * q + j) d) 44 0 q 2) 39 0 v 1) 40 0 v t) := by
  obtain ⟨h0, hP, hPf, hB, hE, hU, hD, hS, hV, hVf, hVl, hC, hCr, hCf⟩ := h
  obtain ⟨⟨a1, a2, a3, a4⟩, -⟩ := hC q hq
  obtain ⟨r1, r2, -⟩ := hCr q hq
  obtain ⟨c1, c2, c3⟩ := sen_C (y := stS (stS (stS (stS (th (stO (stS (stS (stS (stS s 17 q j d) 14 q 2 2) 13 v 6 1) 13 v 7 t) o) 0) 49 0 (3 * q + j) d) 44 0 q 2) 39 0 v 1) 40 0 v t) (st := 2) (ins := s.2.1 14 q 3) hj hd hq hC hCr hCf rfl (fun z => by simp [stS_get, stO]) (fun z => by simp [stS_get, stO]) (fun z => by simp [stS_get, stO]) (fun z g => by simp [stS_get, stO]) (fun z => by simp [stS_get, stO])
    (fun z => by
      by_cases hz : z = q
      · simp [stS_get, stO, hz, a4]
      · simp [stS_get, stO, hz])
    (fun z c => by
      by_cases hz : z = q
      · by_cases h2 : c = 2
        · simp [stS_get, stO, hz, h2]
        · by_cases h3 : c = 3
          · simp [stS_get, stO, hz, h3]
          · simp [stS_get, stO, hz, h2, h3]
      · simp [stS_get, stO, hz])
    (fun i => by simp [stS_get, stO]) (fun z c => by simp [stS_get, stO]) (Or.inl ⟨fun z g hg => by simp [stS_get, stO], fun z => by simp [stS_get, stO]⟩) r2 (fun w => w.elim k0 (fun w => absurd w (by decide))) k1
  refine ⟨R0_ag (s := s) rfl (by repeat' (first | (with_reducible refine ag_st ?_ ?_) | (with_reducible refine ag_O ?_) | (with_reducible refine ag_R ?_ ?_) | (with_reducible refine ag_I ?_ ?_) | (with_reducible refine ag_F ?_ ?_) | (with_reducible refine ag_tw ?_ ?_ ?_) | (with_reducible refine ag_die ?_ ?_ ?_) | (with_reducible refine ag_ev ?_ ?_ ?_ _) | (with_reducible exact ag_rf) | (exact rfl) | (exact fun _ => rfl))) h0, RPs_ag (s := s) rfl (by repeat' (first | (with_reducible refine ag_st ?_ ?_) | (with_reducible refine ag_O ?_) | (with_reducible refine ag_R ?_ ?_) | (with_reducible refine ag_I ?_ ?_) | (with_reducible refine ag_F ?_ ?_) | (with_reducible refine ag_tw ?_ ?_ ?_) | (with_reducible refine ag_die ?_ ?_ ?_) | (with_reducible refine ag_ev ?_ ?_ ?_ _) | (with_reducible exact ag_rf) | (exact rfl) | (exact fun _ => rfl))) hP, RPf_ag (s := s) rfl (by repeat' (first | (with_reducible refine ag_st ?_ ?_) | (with_reducible refine ag_O ?_) | (with_reducible refine ag_R ?_ ?_) | (with_reducible refine ag_I ?_ ?_) | (with_reducible refine ag_F ?_ ?_) | (with_reducible refine ag_tw ?_ ?_ ?_) | (with_reducible refine ag_die ?_ ?_ ?_) | (with_reducible refine ag_ev ?_ ?_ ?_ _) | (with_reducible exact ag_rf) | (exact rfl) | (exact fun _ => rfl))) hPf, RB_ag (s := s) rfl (by repeat' (first | (with_reducible refine ag_st ?_ ?_) | (with_reducible refine ag_O ?_) | (with_reducible refine ag_R ?_ ?_) | (with_reducible refine ag_I ?_ ?_) | (with_reducible refine ag_F ?_ ?_) | (with_reducible refine ag_tw ?_ ?_ ?_) | (with_reducible refine ag_die ?_ ?_ ?_) | (with_reducible refine ag_ev ?_ ?_ ?_ _) | (with_reducible exact ag_rf) | (exact rfl) | (exact fun _ => rfl))) hB, REr_ag (s := s) (by repeat' (first | (with_reducible refine ag_st ?_ ?_) | (with_reducible refine ag_O ?_) | (with_reducible refine ag_R ?_ ?_) | (with_reducible refine ag_I ?_ ?_) | (with_reducible refine ag_F ?_ ?_) | (with_reducible refine ag_tw ?_ ?_ ?_) | (with_reducible refine ag_die ?_ ?_ ?_) | (with_reducible refine ag_ev ?_ ?_ ?_ _) | (with_reducible exact ag_rf) | (exact rfl) | (exact fun _ => rfl))) hE, RUn_ag (s := s) (by repeat' (first | (with_reducible refine ag_st ?_ ?_) | (with_reducible refine ag_O ?_) | (with_reducible refine ag_R ?_ ?_) | (with_reducible refine ag_I ?_ ?_) | (with_reducible refine ag_F ?_ ?_) | (with_reducible refine ag_tw ?_ ?_ ?_) | (with_reducible refine ag_die ?_ ?_ ?_) | (with_reducible refine ag_ev ?_ ?_ ?_ _) | (with_reducible exact ag_rf) | (exact rfl) | (exact fun _ => rfl))) hU, RDs_ag (s := s) (by repeat' (first | (with_reducible refine ag_st ?_ ?_) | (with_reducible refine ag_O ?_) | (with_reducible refine ag_R ?_ ?_) | (with_reducible refine ag_I ?_ ?_) | (with_reducible refine ag_F ?_ ?_) | (with_reducible refine ag_tw ?_ ?_ ?_) | (with_reducible refine ag_die ?_ ?_ ?_) | (with_reducible refine ag_ev ?_ ?_ ?_ _) | (with_reducible exact ag_rf) | (exact rfl) | (exact fun _ => rfl))) hD, RSt_ag (s := s) rfl (by repeat' (first | (with_reducible refine ag_st ?_ ?_) | (with_reducible refine ag_O ?_) | (with_reducible refine ag_R ?_ ?_) | (with_reducible refine ag_I ?_ ?_) | (with_reducible refine ag_F ?_ ?_) | (with_reducible refine ag_tw ?_ ?_ ?_) | (with_reducible refine ag_die ?_ ?_ ?_) | (with_reducible refine ag_ev ?_ ?_ ?_ _) | (with_reducible exact ag_rf) | (exact rfl) | (exact fun _ => rfl))) hS, ?_, ?_, ?_, ?_, ?_, ?_⟩
  · intro z hz
    have h9 := hV z hz
    unfold RVv at h9 ⊢
    by_cases hzq : z = v
    · subst hzq
      simp [stS_get, stO]
      exact ⟨h9.1, ⟨h9.2.1.1, h9.2.1.2.1⟩, h9.2.2⟩
    · simpa [stS_get, stO, hzq] using h9
  · intro z hz
    have h9 := hVf z hz
    have hzq : ¬ z = v := by have hz : s.1 1 ≤ z := hz; omega
    simpa [stS_get, stO, hzq] using h9
  · intro z hz
    have h9 := hVl z hz
    by_cases hzq : z = v
    · subst hzq
      simp [stS_get, stO]
    · simpa [stS_get, stO, hzq] using h9
  · exact c1
  · exact c2
  · exact c3
theorem like_iff : ∀ a, a < 128 → ∀ b, b < 128 → (likeC (nI a) (nI b) ↔ likeM (nI a) (nI b)) := by
  have h : ∀ a, a < 128 → ∀ b, b < 128 → (((nI a = 0 ∧ nI b = 0) ∨ ¬ nI a &&& nI b = 0 ∨ (¬ nI a &&& 96 = 0 ∧ ¬ nI b &&& 96 = 0)) ↔ ((nI a = 0 ∧ nI b = 0) ∨ ¬ (nI a &&& 31 ||| (if 31 < nI a then 32 else 0)) &&& (nI b &&& 31 ||| (if 31 < nI b then 32 else 0)) = 0)) := by decide +kernel
  exact h
theorem rn_and {a b : Int32} (ha : rn a) (hb : rn b) : rn (a &&& b) := by
  obtain ⟨x, hx, rfl⟩ := ha
  obtain ⟨y, hy, rfl⟩ := hb
  have h : ∀ a, a < 128 → ∀ b, b < 128 → nI a &&& nI b = nI (a &&& b) := by decide +kernel
  exact ⟨x &&& y, Nat.lt_of_le_of_lt Nat.and_le_left hx, h x hx y hy⟩
theorem rn_or {a b : Int32} (ha : rn a) (hb : rn b) : rn (a ||| b) := by
  obtain ⟨x, hx, rfl⟩ := ha
  obtain ⟨y, hy, rfl⟩ := hb
  have h : ∀ a, a < 128 → ∀ b, b < 128 → nI a ||| nI b = nI (a ||| b) := by decide +kernel
  exact ⟨x ||| y, Nat.or_lt_two_pow (n := 7) hx hy, h x hx y hy⟩
theorem vc_3 {a b c : Int32} (h : (vc1 a + vc1 b) + vc1 c = 3) : ¬ a = -1 ∧ ¬ b = -1 ∧ ¬ c = -1 := by
  unfold vc1 at h
  by_cases ha : a = -1 <;> by_cases hb : b = -1 <;> by_cases hc : c = -1 <;> simp [ha, hb, hc] at h ⊢
  all_goals exact absurd h (by decide)
end Sent

