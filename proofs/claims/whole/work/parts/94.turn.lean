/-! class and model alike: vows dissolved, by documents, ended by death -/
section Turn
variable {D : Nat} {s : Sg}
/-- one vow's state told anew -/
theorem turn_Rl {v : Nat} {k t : Int32} (hv : v < s.1 1) (hk : ¬ k = 0) (h : Rl D s) : Rl D (stS (stS (th (stS (stS s 13 v 6 k) 13 v 7 t) 0) 39 0 v k) 40 0 v t) := by
  obtain ⟨h0, hP, hPf, hB, hE, hU, hD, hS, hV, hVf, hVl, hC, hCr, hCf⟩ := h
  refine ⟨R0_ag (s := s) rfl (by repeat' (first | (with_reducible refine ag_st ?_ ?_) | (with_reducible refine ag_O ?_) | (with_reducible refine ag_R ?_ ?_) | (with_reducible refine ag_I ?_ ?_) | (with_reducible refine ag_F ?_ ?_) | (with_reducible refine ag_tw ?_ ?_ ?_) | (with_reducible refine ag_die ?_ ?_ ?_) | (with_reducible refine ag_ev ?_ ?_ ?_ _) | (with_reducible exact ag_rf) | (exact rfl) | (exact fun _ => rfl))) h0, RPs_ag (s := s) rfl (by repeat' (first | (with_reducible refine ag_st ?_ ?_) | (with_reducible refine ag_O ?_) | (with_reducible refine ag_R ?_ ?_) | (with_reducible refine ag_I ?_ ?_) | (with_reducible refine ag_F ?_ ?_) | (with_reducible refine ag_tw ?_ ?_ ?_) | (with_reducible refine ag_die ?_ ?_ ?_) | (with_reducible refine ag_ev ?_ ?_ ?_ _) | (with_reducible exact ag_rf) | (exact rfl) | (exact fun _ => rfl))) hP, RPf_ag (s := s) rfl (by repeat' (first | (with_reducible refine ag_st ?_ ?_) | (with_reducible refine ag_O ?_) | (with_reducible refine ag_R ?_ ?_) | (with_reducible refine ag_I ?_ ?_) | (with_reducible refine ag_F ?_ ?_) | (with_reducible refine ag_tw ?_ ?_ ?_) | (with_reducible refine ag_die ?_ ?_ ?_) | (with_reducible refine ag_ev ?_ ?_ ?_ _) | (with_reducible exact ag_rf) | (exact rfl) | (exact fun _ => rfl))) hPf, RB_ag (s := s) rfl (by repeat' (first | (with_reducible refine ag_st ?_ ?_) | (with_reducible refine ag_O ?_) | (with_reducible refine ag_R ?_ ?_) | (with_reducible refine ag_I ?_ ?_) | (with_reducible refine ag_F ?_ ?_) | (with_reducible refine ag_tw ?_ ?_ ?_) | (with_reducible refine ag_die ?_ ?_ ?_) | (with_reducible refine ag_ev ?_ ?_ ?_ _) | (with_reducible exact ag_rf) | (exact rfl) | (exact fun _ => rfl))) hB, REr_ag (s := s) (by repeat' (first | (with_reducible refine ag_st ?_ ?_) | (with_reducible refine ag_O ?_) | (with_reducible refine ag_R ?_ ?_) | (with_reducible refine ag_I ?_ ?_) | (with_reducible refine ag_F ?_ ?_) | (with_reducible refine ag_tw ?_ ?_ ?_) | (with_reducible refine ag_die ?_ ?_ ?_) | (with_reducible refine ag_ev ?_ ?_ ?_ _) | (with_reducible exact ag_rf) | (exact rfl) | (exact fun _ => rfl))) hE, RUn_ag (s := s) (by repeat' (first | (with_reducible refine ag_st ?_ ?_) | (with_reducible refine ag_O ?_) | (with_reducible refine ag_R ?_ ?_) | (with_reducible refine ag_I ?_ ?_) | (with_reducible refine ag_F ?_ ?_) | (with_reducible refine ag_tw ?_ ?_ ?_) | (with_reducible refine ag_die ?_ ?_ ?_) | (with_reducible refine ag_ev ?_ ?_ ?_ _) | (with_reducible exact ag_rf) | (exact rfl) | (exact fun _ => rfl))) hU, RDs_ag (s := s) (by repeat' (first | (with_reducible refine ag_st ?_ ?_) | (with_reducible refine ag_O ?_) | (with_reducible refine ag_R ?_ ?_) | (with_reducible refine ag_I ?_ ?_) | (with_reducible refine ag_F ?_ ?_) | (with_reducible refine ag_tw ?_ ?_ ?_) | (with_reducible refine ag_die ?_ ?_ ?_) | (with_reducible refine ag_ev ?_ ?_ ?_ _) | (with_reducible exact ag_rf) | (exact rfl) | (exact fun _ => rfl))) hD, RSt_ag (s := s) rfl (by repeat' (first | (with_reducible refine ag_st ?_ ?_) | (with_reducible refine ag_O ?_) | (with_reducible refine ag_R ?_ ?_) | (with_reducible refine ag_I ?_ ?_) | (with_reducible refine ag_F ?_ ?_) | (with_reducible refine ag_tw ?_ ?_ ?_) | (with_reducible refine ag_die ?_ ?_ ?_) | (with_reducible refine ag_ev ?_ ?_ ?_ _) | (with_reducible exact ag_rf) | (exact rfl) | (exact fun _ => rfl))) hS, ?_, ?_, ?_, RCs_ag (s := s) rfl (by repeat' (first | (with_reducible refine ag_st ?_ ?_) | (with_reducible refine ag_O ?_) | (with_reducible refine ag_R ?_ ?_) | (with_reducible refine ag_I ?_ ?_) | (with_reducible refine ag_F ?_ ?_) | (with_reducible refine ag_tw ?_ ?_ ?_) | (with_reducible refine ag_die ?_ ?_ ?_) | (with_reducible refine ag_ev ?_ ?_ ?_ _) | (with_reducible exact ag_rf) | (exact rfl) | (exact fun _ => rfl))) hC, RCr_ag (s := s) rfl (by repeat' (first | (with_reducible refine ag_st ?_ ?_) | (with_reducible refine ag_O ?_) | (with_reducible refine ag_R ?_ ?_) | (with_reducible refine ag_I ?_ ?_) | (with_reducible refine ag_F ?_ ?_) | (with_reducible refine ag_tw ?_ ?_ ?_) | (with_reducible refine ag_die ?_ ?_ ?_) | (with_reducible refine ag_ev ?_ ?_ ?_ _) | (with_reducible exact ag_rf) | (exact rfl) | (exact fun _ => rfl))) hCr, RCf_ag (s := s) rfl (by repeat' (first | (with_reducible refine ag_st ?_ ?_) | (with_reducible refine ag_O ?_) | (with_reducible refine ag_R ?_ ?_) | (with_reducible refine ag_I ?_ ?_) | (with_reducible refine ag_F ?_ ?_) | (with_reducible refine ag_tw ?_ ?_ ?_) | (with_reducible refine ag_die ?_ ?_ ?_) | (with_reducible refine ag_ev ?_ ?_ ?_ _) | (with_reducible exact ag_rf) | (exact rfl) | (exact fun _ => rfl))) hCf⟩
  · intro z hz
    have h9 := hV z hz
    unfold RVv at h9 ⊢
    by_cases hzq : z = v
    · subst hzq
      simp [stS_get]
      exact ⟨h9.1, ⟨h9.2.1.1, h9.2.1.2.1⟩, h9.2.2⟩
    · simpa [stS_get, hzq] using h9
  · intro z hz
    have h9 := hVf z hz
    have hzq : ¬ z = v := by have hz : s.1 1 ≤ z := hz; omega
    simpa [stS_get, hzq] using h9
  · intro z hz
    have h9 := hVl z hz
    by_cases hzq : z = v
    · subst hzq
      simp [stS_get]
      exact fun q => absurd q hk
    · simpa [stS_get, hzq] using h9
theorem Rl_o {s' : Sg} (hn : s'.1 = s.1) (e : s'.2.1 = s.2.1) (h : Rl D s) : Rl D s' := Rl_q hn (fun a b c _ => by rw [e]) h
/-- no cause of a vow is open -/
theorem qt_iff (h : Rl D s) {v b : Int32} (hb : ∀ c, c < s.1 2 → nI c = b → s.2.1 14 c 2 = 3) : ¬ inct s v ↔ quietM s v b := by
  unfold quietM
  rw [Rl_ncm h]
  constructor
  · intro hn c hc
    obtain ⟨⟨a1, a2, a3, a4⟩, -⟩ := h.2.2.2.2.2.2.2.2.2.2.2.1 c hc
    unfold qtQ
    rw [a1, a3]
    by_cases e1 : s.2.1 14 c 0 = v
    · by_cases e2 : s.2.1 14 c 2 = 2 ∨ s.2.1 14 c 2 = 3
      · exact Or.inr (Or.inr e2)
      · exact absurd ⟨c, hc, e1, e2⟩ hn
    · exact Or.inr (Or.inl e1)
  · rintro hq ⟨c, hc, e1, e2⟩
    obtain ⟨⟨a1, a2, a3, a4⟩, -⟩ := h.2.2.2.2.2.2.2.2.2.2.2.1 c hc
    have h9 := hq c hc
    unfold qtQ at h9
    rw [a1, a3] at h9
    rcases h9 with h9 | h9 | h9
    · exact e2 (Or.inr (hb c hc h9))
    · exact h9 e1
    · exact e2 h9
theorem qt_no (h : Rl D s) : ∀ c, c < s.1 2 → nI c = -1 → s.2.1 14 c 2 = 3 := fun c hc q => absurd q (nI_ne (by have := (Rl_n h).2.2; omega))
theorem al_grace {v : Int32} (h : Rl D s) : alV sp_L_grace [aR 1 0, aI v] sp_X5_grace [aR 20 0, aI v] D s := by
  have hM := Rl_M h
  have hip := Rl_v h (p := v)
  refine ⟨rfl, Rl_CI h, fun hn => ⟨1, rfl, hM, f2_1 (fun q => hn (hip.mpr q)) (okV_th h)⟩, fun hp => ?_⟩
  have hip' := hip.mp hp
  obtain ⟨q, hq, rfl, hcq⟩ := Rl_vn h hp
  have hc : (s.2.1 13 (cl (nI q)) 6 = 0 ∧ ¬ inct s (nI q)) ↔ (s.2.1 39 0 (cl (nI q)) = 0 ∧ quietM s (nI q) (-1)) := by
    rw [hcq, qt_iff h (qt_no h), (h.2.2.2.2.2.2.2.2.1 q hq).2.1.2.2.1]
  refine ⟨fun hn => ⟨2, rfl, hM, f2_2 hip' (fun z => hn (hc.mpr z)) (okV_th h)⟩, fun hr => ⟨0, rfl, MI_ag (s := s) (by repeat' (first | (with_reducible refine ag_st ?_ ?_) | (with_reducible refine ag_O ?_) | (with_reducible refine ag_R ?_ ?_) | (with_reducible refine ag_I ?_ ?_) | (with_reducible refine ag_F ?_ ?_) | (with_reducible refine ag_tw ?_ ?_ ?_) | (with_reducible refine ag_die ?_ ?_ ?_) | (with_reducible refine ag_ev ?_ ?_ ?_ _) | (with_reducible exact ag_rf) | (exact rfl) | (exact fun _ => rfl))) hM, f2_0 hip' (hc.mp hr) ⟨?_, (by first | rfl | (simp [stS_get, stR_get]; done)), rfl⟩⟩⟩
  show Rl D (stS (stS (th (stS (stS s 13 (cl (nI q)) 6 2) 13 (cl (nI q)) 7 (s.2.1 1 0 7)) 0) 39 0 (cl (nI q)) 2) 40 0 (cl (nI q)) (s.2.1 20 0 0))
  rw [hcq, Rl_day h]
  exact turn_Rl hq (by decide) h
theorem mbj_iff (h : Rl D s) {v : Nat} {b : Int32} (hv : v < s.1 1) (hb : ∀ c, c < s.1 2 → nI c = b → s.2.1 14 c 2 = 3) : mbj s (nI v) ↔ ((s.2.1 39 0 v = 0 ∨ s.2.1 39 0 v = 3) ∧ quietM s (nI v) b) := by
  have hcv : cl (nI v) = v := nI_clamp (by have := (Rl_n h).2.1; omega)
  unfold mbj
  rw [hcv, qt_iff h hb, (h.2.2.2.2.2.2.2.2.1 v hv).2.1.2.2.1]
theorem hb_z {z : Sg} (hz : ∀ a b c, 20 ≤ a → z.2.1 a b c = s.2.1 a b c) {i k : Nat} : hbQ z i k = hbQ s i k := by
  unfold hbQ mof mbd
  simp only [hz 33 _ _ (by decide), hz 34 _ _ (by decide), hz 36 _ _ (by decide), hz 39 _ _ (by decide), hz 40 _ _ (by decide)]
theorem hd_z {z : Sg} (hz : ∀ a b c, 20 ≤ a → z.2.1 a b c = s.2.1 a b c) {v : Nat} : hdM z v = hdM s v := by
  unfold hdM
  rw [hz 38 0 v (by decide), show (∃ k, k < v ∧ hbQ z v k) = (∃ k, k < v ∧ hbQ s v k) from by simp only [hb_z hz]]
theorem dc_z {z : Sg} (hz : ∀ a b c, 20 ≤ a → z.2.1 a b c = s.2.1 a b c) {v : Nat} : dcM z v = dcM s v := by
  unfold dcM
  rw [hd_z hz, hz 37 0 v (by decide)]
theorem qt_z {z : Sg} (hz : ∀ a b c, 20 ≤ a → z.2.1 a b c = s.2.1 a b c) {v b : Int32} : quietM z v b = quietM s v b := by
  unfold quietM qtQ ncm
  simp only [hz 20 _ _ (by decide), hz 42 _ _ (by decide), hz 44 _ _ (by decide)]
theorem al_documents {v : Int32} (h : Rl D s) : alI sp_L_documents [aR 1 0, aI v, aR 60 0] sp_X5_documents [aR 20 0, aI v] D s := by
  have hM := Rl_M h
  have hip := Rl_v h (p := v)
  refine ⟨rfl, Rl_CI h, fun hn => ⟨1, rfl, hM, f2_1 (fun q => hn (hip.mpr q)) (okI_th (by decide) h)⟩, fun hp => ?_⟩
  have hip' := hip.mp hp
  obtain ⟨q, hq, rfl, hcq⟩ := Rl_vn h hp
  obtain ⟨e1, m, hm, e2⟩ := dc_eq h hq
  have hc : (¬ dcC s (cl (nI q)) = 0 ∧ mbj s (nI q)) ↔ ((s.2.1 39 0 (cl (nI q)) = 0 ∨ s.2.1 39 0 (cl (nI q)) = 3) ∧ ¬ dcM s (cl (nI q)) ≤ 0 ∧ quietM s (nI q) (-1)) := by
    rw [hcq, mbj_iff h hq (qt_no h), e1, e2, le_nz m hm]
    exact ⟨fun ⟨x, y, z⟩ => ⟨y, x, z⟩, fun ⟨x, y, z⟩ => ⟨y, x, z⟩⟩
  have hdm : dcM s (cl (nI q)) = dcC s (cl (nI q)) := by rw [hcq, e1]
  refine ⟨fun hn => ⟨2, rfl, hM, f2_2 hip' (fun z => hn (hc.mpr z)) (okI_th (by decide) h)⟩, fun hr => ?_⟩
  obtain ⟨x, hx⟩ : ∃ x, x = dcC s (cl (nI q)) := ⟨_, rfl⟩
  show ∃ kk, some (aI 0) = some (aI kk) ∧ sp_X5_documents [aR 20 0, aI (nI q)] (stO (stS (stS s 13 (cl (nI q)) 6 1) 13 (cl (nI q)) 7 (s.2.1 1 0 7)) (dcC s (cl (nI q))).toInt64) (okI D kk) (fun _ _ => False)
  rw [← hx]
  rw [← hx] at hdm
  obtain ⟨y, hy⟩ : ∃ y, y = stO (stS (stS s 13 (cl (nI q)) 6 1) 13 (cl (nI q)) 7 (s.2.1 1 0 7)) x.toInt64 := ⟨_, rfl⟩
  rw [← hy]
  have hz : ∀ a b c, 20 ≤ a → y.2.1 a b c = s.2.1 a b c := fun a b c ha => by
    rw [hy]
    show (stS (stS s 13 (cl (nI q)) 6 1) 13 (cl (nI q)) 7 (s.2.1 1 0 7)).2.1 a b c = _
    rw [stS_get, if_neg (by omega), stS_get, if_neg (by omega)]
  have hMy : MI y := by
    unfold MI MI0 at hM ⊢
    rw [hz 20 0 1 (by decide), hz 20 0 12 (by decide), hz 20 0 21 (by decide)]
    exact hM
  have hpy : isV y (nI q) := by
    unfold isV
    rw [hz 20 0 12 (by decide)]
    exact hip'
  have hcy : (y.2.1 39 0 (cl (nI q)) = 0 ∨ y.2.1 39 0 (cl (nI q)) = 3) ∧ ¬ dcM y (cl (nI q)) ≤ 0 ∧ quietM y (nI q) (-1) := by
    rw [hz 39 0 _ (by decide), dc_z hz, qt_z hz]
    exact hc.mp hr
  refine ⟨0, rfl, hMy, f2_0 hpy hcy ?_⟩
  rw [dc_z hz, hdm, hz 20 0 0 (by decide), Rl_day h, hy, hcq]
  exact ⟨Rl_o (s := stS (stS (th (stS (stS s 13 q 6 1) 13 q 7 (s.2.1 1 0 7)) 0) 39 0 q 1) 40 0 q (s.2.1 1 0 7)) rfl rfl (turn_Rl hq (by decide) h), (by first | rfl | (simp [stS_get, stR_get]; done)), x, rfl, fun _ => rfl⟩
/-- the vows that a death ends -/
abbrev evE (s : Sg) (v : Nat) (p : Int32) : Prop := s.2.1 13 v 6 = 0 ∧ (p = s.2.1 13 v 0 ∨ p = s.2.1 13 v 1)
theorem evS_13 {p t : Int32} {v j : Nat} : ∀ K, (evS s p t K).2.1 13 v j = if v < K ∧ evE s v p ∧ j = 6 then 3 else if v < K ∧ evE s v p ∧ j = 7 then t else s.2.1 13 v j
  | 0 => by
    rw [if_neg (fun z => Nat.not_lt_zero _ z.1), if_neg (fun z => Nat.not_lt_zero _ z.1)]
    rfl
  | K + 1 => by
    have hb : evB (evS s p t K) K p ↔ evB s K p := by
      unfold evB
      rw [evS_13 K, evS_13 K, evS_13 K]
      simp
    have ih := evS_13 (p := p) (t := t) (v := v) (j := j) K
    rw [evS]
    by_cases hK : evB s K p
    · rw [iteP_t (hb.mpr hK), stS_get, stS_get]
      by_cases hv : v = K
      · subst hv
        by_cases h7 : j = 7
        · subst h7
          rw [if_pos ⟨rfl, rfl, rfl⟩, if_neg (fun z => absurd z.2.2 (by decide)), if_pos ⟨Nat.lt_succ_self _, hK, rfl⟩]
        · rw [if_neg (fun z => h7 z.2.2)]
          by_cases h6 : j = 6
          · subst h6
            rw [if_pos ⟨rfl, rfl, rfl⟩, if_pos ⟨Nat.lt_succ_self _, hK, rfl⟩]
          · rw [if_neg (fun z => h6 z.2.2), if_neg (fun z => h6 z.2.2), if_neg (fun z => h7 z.2.2), ih, if_neg (fun z => h6 z.2.2), if_neg (fun z => h7 z.2.2)]
      · rw [if_neg (fun z => hv z.2.1), if_neg (fun z => hv z.2.1), ih]
        have e : v < K + 1 ↔ v < K := by omega
        simp only [e]
    · rw [iteP_f (fun z => hK (hb.mp z)), ih]
      by_cases hv : v = K
      · subst hv
        rw [if_neg (fun z => hK z.2.1), if_neg (fun z => hK z.2.1), if_neg (fun z => hK z.2.1), if_neg (fun z => hK z.2.1)]
      · have e : v < K + 1 ↔ v < K := by omega
        simp only [e]
theorem evN_eq {s' : Sg} {p t : Int32} : ∀ K, (∀ v, v < K → (evB s v p ↔ (s'.2.1 39 0 v = 0 ∧ (s'.2.1 33 0 v = p ∨ s'.2.1 34 0 v = p)))) → evN s p t K = nI (dieN s' p K)
  | 0, _ => rfl
  | K + 1, h => by
    have ih := evN_eq (s' := s') (p := p) (t := t) K (fun v hv => h v (by omega))
    have hb : evB (evS s p t K) K p ↔ evB s K p := by
      unfold evB
      rw [evS_13 K, evS_13 K, evS_13 K]
      simp
    rw [evN, dieN]
    by_cases hK : evB s K p
    · rw [iteP_t (hb.mpr hK), if_pos ((h K (Nat.lt_succ_self _)).mp hK), ih, nIs]
    · rw [iteP_f (fun z => hK (hb.mp z)), if_neg (fun z => hK ((h K (Nat.lt_succ_self _)).mpr z)), ih, Nat.add_zero]
theorem al_die {p : Int32} (h : Rl D s) : alI sp_L_die [aR 1 0, aI p, aR 60 0] sp_X5_die [aR 20 0, aI p] D s := by
  have hM := Rl_M h
  have hip := Rl_p h (p := p)
  refine ⟨rfl, Rl_CI h, fun hn => ⟨1, rfl, hM, f2_1 (fun q => hn (hip.mpr q)) (okI_th (by decide) h)⟩, fun hp => ?_⟩
  have hip' := hip.mp hp
  obtain ⟨q, hq, rfl, hcq⟩ := Rl_pn h hp
  have h9 := h.2.1 q hq
  have hc : (¬ s.2.1 12 (cl (nI q)) 5 = 0) ↔ s.2.1 27 0 (cl (nI q)) = 0 := by
    rw [hcq]
    rcases h9.2.2.2.2.2 with ⟨a, b⟩ | ⟨a, b⟩ <;> rw [a, b] <;> simp
  refine ⟨fun hn => ⟨2, rfl, hM, f2_2 hip' (fun z => hn (hc.mpr z)) (okI_th (by decide) h)⟩, fun hr => ?_⟩
  have hEB : ∀ v, v < s.1 1 → (evB s v (nI q) ↔ (s.2.1 39 0 v = 0 ∧ (s.2.1 33 0 v = nI q ∨ s.2.1 34 0 v = nI q))) := fun v hv => by
    obtain ⟨⟨a1, a2, a3, a4⟩, ⟨b1, b2, b3, b4⟩, -⟩ := h.2.2.2.2.2.2.2.2.1 v hv
    unfold evB
    rw [b3, a1, a2, eq_comm (a := nI q), eq_comm (a := nI q)]
  have hEB1 : ∀ v, evB (stS s 12 (cl (nI q)) 5 0) v (nI q) ↔ evB s v (nI q) := fun v => Iff.rfl
  obtain ⟨x, hx⟩ : ∃ x, x = evN (stS s 12 (cl (nI q)) 5 0) (nI q) (s.2.1 1 0 7) (s.1 1) := ⟨_, rfl⟩
  obtain ⟨z, hz⟩ : ∃ z, z = evS (stS s 12 (cl (nI q)) 5 0) (nI q) (s.2.1 1 0 7) (s.1 1) := ⟨_, rfl⟩
  have hz1 : z.1 = s.1 := by rw [hz]; exact evS_1 _
  have hag : ∀ k : Nat → Nat → Nat → Bool, (∀ i, k 13 i 6 = false) → (∀ i, k 13 i 7 = false) → (∀ i, k 12 i 5 = false) → ag k s z := fun k k1 k2 k3 => by rw [hz]; exact ag_ev k1 k2 (ag_st (k3 _) ag_rf) _
  have ho : ∀ a b c, ¬ a = 13 → ¬ a = 12 → z.2.1 a b c = s.2.1 a b c := fun a b c ha hb => by rw [hz, evS_o ha, stS_get, if_neg (fun w => hb w.1)]
  have h12 : ∀ b c, z.2.1 12 b c = if b = q ∧ c = 5 then 0 else s.2.1 12 b c := fun b c => by rw [hz, evS_o (by decide), stS_get, hcq]; simp
  have h13 : ∀ v j, z.2.1 13 v j = if v < s.1 1 ∧ evE s v (nI q) ∧ j = 6 then 3 else if v < s.1 1 ∧ evE s v (nI q) ∧ j = 7 then s.2.1 1 0 7 else s.2.1 13 v j := fun v j => by rw [hz, evS_13]; rfl
  rw [← hx, ← hz]
  have e20 : nvm (stO z x.toInt64) = s.1 1 := by
    rw [← Rl_nvm h]
    show (z.2.1 20 0 12).toNatClampNeg = _
    rw [ho 20 0 12 (by decide) (by decide)]
    rfl
  refine ⟨0, rfl, ?_, f2_0 ?_ ?_ ?_⟩
  · exact MI_ag (ag_O (hag kR (fun _ => rfl) (fun _ => rfl) (fun _ => rfl))) hM
  · show inR (nI q) 0 (z.2.1 20 0 1 - 1)
    rw [ho 20 0 1 (by decide) (by decide)]
    exact hip'
  · show z.2.1 27 0 (cl (nI q)) = 0
    rw [ho 27 0 _ (by decide) (by decide)]
    exact hc.mp hr
  · rw [e20]
    have hD9 : ∀ v, v < s.1 1 → (evB s v (nI q) ↔ ((stS (th (stO z x.toInt64) 0) 27 0 (cl (nI q)) 1).2.1 39 0 v = 0 ∧ ((stS (th (stO z x.toInt64) 0) 27 0 (cl (nI q)) 1).2.1 33 0 v = nI q ∨ (stS (th (stO z x.toInt64) 0) 27 0 (cl (nI q)) 1).2.1 34 0 v = nI q))) := fun v hv => by
      show _ ↔ (z.2.1 39 0 v = 0 ∧ (z.2.1 33 0 v = nI q ∨ z.2.1 34 0 v = nI q))
      rw [ho 39 0 v (by decide) (by decide), ho 33 0 v (by decide) (by decide), ho 34 0 v (by decide) (by decide)]
      exact hEB v hv
    have hxe : nI (dieN (stS (th (stO z x.toInt64) 0) 27 0 (cl (nI q)) 1) (nI q) (s.1 1)) = x := by
      exact (evN_eq (s := stS s 12 (cl (nI q)) 5 0) (t := s.2.1 1 0 7) (s.1 1) (fun v hv => (hEB1 v).trans (hD9 v hv))).symm.trans hx.symm
    refine ⟨?_, ?_, x, by rw [hxe], fun _ => rfl⟩
    · obtain ⟨y, hy⟩ : ∃ y, y = dieS (stS (th (stO z x.toInt64) 0) 27 0 (cl (nI q)) 1) (nI q) (s.1 1) := ⟨_, rfl⟩
      have hy1 : y.1 = s.1 := by rw [hy]; exact hz1
      have hyo : ∀ a b c, ¬ a = 39 → ¬ a = 40 → y.2.1 a b c = if a = 27 ∧ b = 0 ∧ c = q then 1 else if a = 20 ∧ b = 0 ∧ c = 32 then 0 else z.2.1 a b c := fun a b c h39 h40 => by
        rw [hy, dieS_get, if_neg (fun w => h39 w.1), if_neg (fun w => h40 w.1), stS_get, stS_get, hcq]
        rfl
      have h39 : ∀ v, y.2.1 39 0 v = if v < s.1 1 ∧ evE s v (nI q) then 3 else s.2.1 39 0 v := fun v => by
        rw [hy, dieS_get]
        by_cases hv : v < s.1 1 ∧ evE s v (nI q)
        · obtain ⟨k1, k2⟩ := (hD9 v hv.1).mp hv.2
          rw [if_pos hv, if_pos ⟨rfl, rfl, hv.1, k1, k2⟩]
        · rw [if_neg hv, if_neg (fun w => hv ⟨w.2.2.1, (hD9 v w.2.2.1).mpr w.2.2.2⟩), if_neg (fun w => absurd w.1 (by decide))]
          show z.2.1 39 0 v = _
          rw [ho 39 0 v (by decide) (by decide)]
      have h40 : ∀ v, y.2.1 40 0 v = if v < s.1 1 ∧ evE s v (nI q) then s.2.1 1 0 7 else s.2.1 40 0 v := fun v => by
        rw [hy, dieS_get, if_neg (fun w => absurd w.1 (by decide))]
        have e : (stS (th (stO z x.toInt64) 0) 27 0 (cl (nI q)) 1).2.1 20 0 0 = s.2.1 1 0 7 := by
          show z.2.1 20 0 0 = _
          rw [ho 20 0 0 (by decide) (by decide), Rl_day h]
        by_cases hv : v < s.1 1 ∧ evE s v (nI q)
        · obtain ⟨k1, k2⟩ := (hD9 v hv.1).mp hv.2
          rw [if_pos hv, if_pos ⟨rfl, rfl, hv.1, k1, k2⟩, e]
        · rw [if_neg hv, if_neg (fun w => hv ⟨w.2.2.1, (hD9 v w.2.2.1).mpr w.2.2.2⟩)]
          show z.2.1 40 0 v = _
          rw [ho 40 0 v (by decide) (by decide)]
      rw [← hy]
      have hagy : ∀ k : Nat → Nat → Nat → Bool, (∀ i, k 13 i 6 = false) → (∀ i, k 13 i 7 = false) → (∀ i, k 12 i 5 = false) → (∀ i, k 39 0 i = false) → (∀ i, k 40 0 i = false) → (∀ i, k 27 0 i = false) → k 20 0 32 = false → ag k s y := fun k k1 k2 k3 k4 k5 k6 k7 => by
        rw [hy]
        exact ag_die k4 k5 (ag_st (k6 _) (ag_st k7 (ag_O (hag k k1 k2 k3))))
      obtain ⟨h0, hP, hPf, hB, hE, hU, hD, hS, hV, hVf, hVl, hC, hCr, hCf⟩ := h
      have n0 : y.1 0 = s.1 0 := by rw [hy1]
      have n1 : y.1 1 = s.1 1 := by rw [hy1]
      have n2 : y.1 2 = s.1 2 := by rw [hy1]
      refine ⟨R0_ag hy1 (hagy _ (fun _ => rfl) (fun _ => rfl) (fun _ => rfl) (fun _ => rfl) (fun _ => rfl) (fun _ => rfl) rfl) h0, ?_, ?_, RB_ag n0 (hagy _ (fun _ => rfl) (fun _ => rfl) (fun _ => rfl) (fun _ => rfl) (fun _ => rfl) (fun _ => rfl) rfl) hB, REr_ag (hagy _ (fun _ => rfl) (fun _ => rfl) (fun _ => rfl) (fun _ => rfl) (fun _ => rfl) (fun _ => rfl) rfl) hE, RUn_ag (hagy _ (fun _ => rfl) (fun _ => rfl) (fun _ => rfl) (fun _ => rfl) (fun _ => rfl) (fun _ => rfl) rfl) hU, RDs_ag (hagy _ (fun _ => rfl) (fun _ => rfl) (fun _ => rfl) (fun _ => rfl) (fun _ => rfl) (fun _ => rfl) rfl) hD, RSt_ag n0 (hagy _ (fun _ => rfl) (fun _ => rfl) (fun _ => rfl) (fun _ => rfl) (fun _ => rfl) (fun _ => rfl) rfl) hS, ?_, ?_, ?_, RCs_ag n2 (hagy _ (fun _ => rfl) (fun _ => rfl) (fun _ => rfl) (fun _ => rfl) (fun _ => rfl) (fun _ => rfl) rfl) hC, RCr_ag n2 (hagy _ (fun _ => rfl) (fun _ => rfl) (fun _ => rfl) (fun _ => rfl) (fun _ => rfl) (fun _ => rfl) rfl) hCr, RCf_ag n2 (hagy _ (fun _ => rfl) (fun _ => rfl) (fun _ => rfl) (fun _ => rfl) (fun _ => rfl) (fun _ => rfl) rfl) hCf⟩
      · intro r hr
        rw [n0] at hr
        have h8 := hP r hr
        unfold RPp at h8 ⊢
        simp only [hyo _ _ _ (show ¬ 22 = 39 by decide) (by decide), hyo _ _ _ (show ¬ 23 = 39 by decide) (by decide), hyo _ _ _ (show ¬ 24 = 39 by decide) (by decide), hyo _ _ _ (show ¬ 25 = 39 by decide) (by decide), hyo _ _ _ (show ¬ 26 = 39 by decide) (by decide), hyo _ _ _ (show ¬ 27 = 39 by decide) (by decide), hyo _ _ _ (show ¬ 12 = 39 by decide) (by decide), h12]
        simp only [ho 22 _ _ (by decide) (by decide), ho 23 _ _ (by decide) (by decide), ho 24 _ _ (by decide) (by decide), ho 25 _ _ (by decide) (by decide), ho 26 _ _ (by decide) (by decide), ho 27 _ _ (by decide) (by decide)]
        by_cases hrq : r = q
        · subst hrq
          simp
          exact ⟨h8.1, h8.2.1, h8.2.2.1, h8.2.2.2.1, h8.2.2.2.2.1⟩
        · simpa [hrq] using h8
      · intro r hr
        rw [n0] at hr
        have h8 := hPf r hr
        have hrq : ¬ r = q := by omega
        simp only [hyo _ _ _ (show ¬ 24 = 39 by decide) (by decide), hyo _ _ _ (show ¬ 25 = 39 by decide) (by decide), hyo _ _ _ (show ¬ 26 = 39 by decide) (by decide), hyo _ _ _ (show ¬ 27 = 39 by decide) (by decide)]
        simp only [ho 24 _ _ (by decide) (by decide), ho 25 _ _ (by decide) (by decide), ho 26 _ _ (by decide) (by decide), ho 27 _ _ (by decide) (by decide)]
        simpa [hrq] using h8
      · intro v hv
        rw [n1] at hv
        have h8 := hV v hv
        have yj : ∀ j, ¬ j = 6 → ¬ j = 7 → z.2.1 13 v j = s.2.1 13 v j := fun j k6 k7 => by rw [h13, if_neg (fun w => k6 w.2.2), if_neg (fun w => k7 w.2.2)]
        have g : ∀ a, ¬ a = 39 → ¬ a = 40 → ¬ a = 27 → ¬ a = 20 → ¬ a = 13 → ¬ a = 12 → y.2.1 a 0 v = s.2.1 a 0 v := fun a k1 k2 k3 k4 k5 k6 => by rw [hyo a 0 v k1 k2, if_neg (fun w => k3 w.1), if_neg (fun w => k4 w.1), ho a 0 v k5 k6]
        have g13 : ∀ j, y.2.1 13 v j = z.2.1 13 v j := fun j => by rw [hyo 13 v j (by decide) (by decide), if_neg (fun w => absurd w.1 (by decide)), if_neg (fun w => absurd w.1 (by decide))]
        unfold RVv at h8 ⊢
        rw [g 33 (by decide) (by decide) (by decide) (by decide) (by decide) (by decide), g 34 (by decide) (by decide) (by decide) (by decide) (by decide) (by decide), g 35 (by decide) (by decide) (by decide) (by decide) (by decide) (by decide), g 36 (by decide) (by decide) (by decide) (by decide) (by decide) (by decide), g 37 (by decide) (by decide) (by decide) (by decide) (by decide) (by decide), g 38 (by decide) (by decide) (by decide) (by decide) (by decide) (by decide),
          g13, g13, g13, g13, g13, g13, g13, g13, yj 0 (by decide) (by decide), yj 1 (by decide) (by decide), yj 2 (by decide) (by decide), yj 3 (by decide) (by decide), yj 4 (by decide) (by decide), yj 5 (by decide) (by decide)]
        by_cases hb : evE s v (nI q)
        · have y6 : z.2.1 13 v 6 = 3 := (h13 v 6).trans (if_pos ⟨hv, hb, rfl⟩)
          have y7 : z.2.1 13 v 7 = s.2.1 1 0 7 := (h13 v 7).trans ((if_neg (fun w => absurd w.2.2 (by decide))).trans (if_pos ⟨hv, hb, rfl⟩))
          have y39 : y.2.1 39 0 v = 3 := (h39 v).trans (if_pos ⟨hv, hb⟩)
          have y40 : y.2.1 40 0 v = s.2.1 1 0 7 := (h40 v).trans (if_pos ⟨hv, hb⟩)
          rw [y6, y7, y39, y40]
          exact ⟨h8.1, ⟨h8.2.1.1, h8.2.1.2.1, rfl, rfl⟩, h8.2.2⟩
        · have y6 : z.2.1 13 v 6 = s.2.1 13 v 6 := (h13 v 6).trans ((if_neg (fun w => hb w.2.1)).trans (if_neg (fun w => hb w.2.1)))
          have y7 : z.2.1 13 v 7 = s.2.1 13 v 7 := (h13 v 7).trans ((if_neg (fun w => hb w.2.1)).trans (if_neg (fun w => hb w.2.1)))
          have y39 : y.2.1 39 0 v = s.2.1 39 0 v := (h39 v).trans (if_neg (fun w => hb w.2))
          have y40 : y.2.1 40 0 v = s.2.1 40 0 v := (h40 v).trans (if_neg (fun w => hb w.2))
          rw [y6, y7, y39, y40]
          exact h8
      · intro v hv
        rw [n1] at hv
        rw [h39, if_neg (fun w => by have := w.1; omega)]
        exact hVf v hv
      · intro v hv
        rw [n1] at hv
        have h8 := hVl v hv
        obtain ⟨i1, i2⟩ := Rl_v0 (D := D) (s := s) ⟨h0, hP, hPf, hB, hE, hU, hD, hS, hV, hVf, hVl, hC, hCr, hCf⟩ hv
        obtain ⟨a, ha, ea, ca⟩ := Rl_pn (D := D) (s := s) ⟨h0, hP, hPf, hB, hE, hU, hD, hS, hV, hVf, hVl, hC, hCr, hCf⟩ i1
        obtain ⟨b, hb, eb, cb⟩ := Rl_pn (D := D) (s := s) ⟨h0, hP, hPf, hB, hE, hU, hD, hS, hV, hVf, hVl, hC, hCr, hCf⟩ i2
        simp only [hyo _ _ _ (show ¬ 13 = 39 by decide) (by decide), hyo _ _ _ (show ¬ 12 = 39 by decide) (by decide), h13, h12]
        intro e6
        have e0 : ¬ evE s v (nI q) := fun w => by simp [hv, w] at e6
        simp [e0] at e6 ⊢
        obtain ⟨l1, l2⟩ := h8 e6
        refine ⟨⟨fun w => ?_, l1⟩, fun w => ?_, l2⟩
        · rw [ea, ca] at w
          exact e0 ⟨e6, Or.inl (by rw [ea, w])⟩
        · rw [eb, cb] at w
          exact e0 ⟨e6, Or.inr (by rw [eb, w])⟩
    · rw [dieS_get, if_neg (fun w => absurd w.1 (by decide)), if_neg (fun w => absurd w.1 (by decide))]
      rfl
end Turn

