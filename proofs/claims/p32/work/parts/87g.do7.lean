/-! the calls: a new person, dispensations -/
theorem CI_mk9 {s : Sg} (g0 : Gd s 0) (g1 : Gd s 1) (g2 : Gd s 2) (h24 : s.1 0 ≤ 24) (hv : ∀ v, v < s.1 1 + s.1 7 → iC s 0 (s.2.1 13 v 0) ∧ iC s 0 (s.2.1 13 v 1)) (hc : ∀ c, c < s.1 2 + s.1 8 → iC s 1 (s.2.1 14 c 0)) : CI s :=
  eq_true ⟨g0, g1, g2, h24, fun v h => hv v h, fun c h => hc c h⟩
section Do7
variable {t : Nat} {fa mo : Nat → Nat} {T : Nat → Nat → Nat} {s s' : Sg} {X : Xt} {k : Nat}
theorem per_2 {g f m a : Int32} {t i j : Nat} : (perS s g f m a).2.1 t i j = if t = 2 ∧ i = 0 ∧ j = 0 then (persT s g f m a).2.1 2 0 0 + 1 else (persT s g f m a).2.1 t i j := by
  unfold perS
  rw [addS_2]
  rfl
theorem perT_6 {g f m a : Int32} {j : Nat} : (persT s g f m a).2.1 6 (s.1 0) j = if j = s.1 0 then 0 else if j < s.1 0 then evC s f m j else s.2.1 6 (s.1 0) j := by
  have e : (persT s g f m a).2.1 6 (s.1 0) j = (enC s (s.1 0) f m).2.1 6 (s.1 0) j := by
    unfold persT piC
    simp [stS_get]
    rfl
  rw [e]
  unfold enC
  rw [stS_get, stG_get]
  by_cases h1 : j = s.1 0
  · rw [if_pos ⟨rfl, rfl, h1⟩, if_pos h1]
  · rw [if_neg (fun w => h1 w.2.2), if_neg h1]
    by_cases h2 : j < s.1 0
    · rw [if_pos ⟨rfl, rfl, h2⟩, if_pos h2]
    · rw [if_neg (fun w => h2 w.2.2), if_neg h2]
theorem perT_o {g f m a : Int32} {t i j : Nat} (h : ¬ ((t = 12 ∨ t = 6) ∧ i = s.1 0)) : (persT s g f m a).2.1 t i j = s.2.1 t i j := by
  unfold persT piC
  have e : ∀ t' i' j' v' (z : Sg), t' = 12 → i' = s.1 0 → (stS z t' i' j' v').2.1 t i j = z.2.1 t i j := fun t' i' j' v' z k1 k2 => by
    rw [stS_get, if_neg (fun w => h ⟨Or.inl (w.1.trans k1), w.2.1.trans k2⟩)]
  rw [e _ _ _ _ _ rfl rfl, e _ _ _ _ _ rfl rfl, e _ _ _ _ _ rfl rfl, e _ _ _ _ _ rfl rfl, e _ _ _ _ _ rfl rfl, e _ _ _ _ _ rfl rfl]
  show (if t = 12 + 0 ∧ i = (enC s (s.1 0) f m).1 0 then 0 else (enC s (s.1 0) f m).2.1 t i j) = _
  rw [if_neg (fun w => h ⟨Or.inl w.1, w.2⟩)]
  unfold enC
  rw [stS_get, if_neg (fun w => h ⟨Or.inr w.1, w.2.1⟩), stG_get, if_neg (fun w => h ⟨Or.inr w.1, w.2.1⟩)]
theorem perT_12 {g f m a : Int32} : (persT s g f m a).2.1 12 (s.1 0) 0 = s.2.1 1 0 7 - g ∧ (persT s g f m a).2.1 12 (s.1 0) 1 = a ∧ (persT s g f m a).2.1 12 (s.1 0) 2 = 0 ∧ (persT s g f m a).2.1 12 (s.1 0) 3 = 0 ∧ (persT s g f m a).2.1 12 (s.1 0) 4 = 0 ∧ (persT s g f m a).2.1 12 (s.1 0) 5 = 1 := by
  have et : (newS (enC s (s.1 0) f m) 0 1).2.1 1 0 7 = s.2.1 1 0 7 := by
    show (enC s (s.1 0) f m).2.1 1 0 7 = _
    unfold enC
    rw [stS_get, if_neg (fun w => absurd w.1 (by decide)), stG_get, if_neg (fun w => absurd w.1 (by decide))]
  unfold persT piC
  rw [et]
  refine ⟨?_, ?_, ?_, ?_, ?_, ?_⟩
  all_goals simp [stS_get]
/-- a parent: coded, 0 is none -/
theorem pc_m1 {f : Nat} (h : f < 100) : nI f - 1 = -1 ↔ f = 0 := m1_iff (by omega)
theorem pc_iC {f : Nat} (h : f < 100) (hs : s.1 0 < 100) : iC s 0 (nI f - 1) ↔ (0 < f ∧ f ≤ s.1 0) := by
  cases f with
  | zero =>
    constructor
    · intro q
      exact absurd (iC0 q) (by decide)
    · intro q
      omega
  | succ f =>
    rw [nI_pred, iC_N hs (by omega)]
    omega
theorem pers_1 {ag fc mc ho : Nat} (hR : Rl t s) (hf : fc < 100) (hm : mc < 100) (hc : ¬ (fc ≤ s.1 0 ∧ mc ≤ s.1 0)) : sp_L_does [aR 1 0, aI 0, aI (nI ag), aI (nI fc - 1), aI (nI mc - 1), aI (nI ho)] s (Dn (-3000000) t) X := by
  have hn := Rl_n hR
  have e1 := pc_iC (s := s) hf (by omega)
  have e2 := pc_iC (s := s) hm (by omega)
  have e3 := pc_m1 hf
  have e4 := pc_m1 hm
  refine do_0 ⟨Rl_CI hR, Rl_GI hR, fun _ => ⟨rfl, hR⟩, fun w1 => ⟨fun _ => ⟨rfl, hR⟩, fun w2 => ?_⟩⟩
  rw [e1, e3] at w1
  rw [e2, e4] at w2
  omega
theorem pers_2 {ag fc mc ho : Nat} (hR : Rl t s) (hf : fc ≤ s.1 0) (hm : mc ≤ s.1 0) (ha : ag < 100000) (hh : ho < 100) (hc : ¬ ((fc = 0 ∨ ¬ fc = mc) ∧ ag < 36001 ∧ ho < 8)) : sp_L_does [aR 1 0, aI 0, aI (nI ag), aI (nI fc - 1), aI (nI mc - 1), aI (nI ho)] s (Dn (-2000000) t) X := by
  have hn := Rl_n hR
  have e1 := pc_iC (s := s) (f := fc) (by omega) (by omega)
  have e2 := pc_iC (s := s) (f := mc) (by omega) (by omega)
  have e3 := pc_m1 (f := fc) (by omega)
  have e4 := pc_m1 (f := mc) (by omega)
  have e5 : nI fc - 1 = nI mc - 1 ↔ fc = mc := by
    constructor
    · intro q
      cases fc with
      | zero => exact ((m1_iff (by omega)).mp q.symm).symm
      | succ f =>
        cases mc with
        | zero => exact (m1_iff (by omega)).mp q
        | succ m =>
          rw [nI_pred, nI_pred] at q
          rw [(nI_eq (by omega) (by omega)).mp q]
    · rintro rfl
      rfl
  have e6 : (0 ≤ nI ag ∧ nI ag ≤ 36000) ↔ ag ≤ 36000 := rgL (b := 36000) (by omega) (by decide)
  have e7 : (0 ≤ nI ho ∧ nI ho < 8) ↔ ho < 8 := rgN (b := 8) (by omega) (by decide)
  refine do_0 ⟨Rl_CI hR, Rl_GI hR, fun w => absurd (by rw [e1, e3]; omega) w, fun w1 => ⟨fun w => absurd (by rw [e2, e4]; omega) w, fun w2 => ⟨fun _ => ⟨rfl, hR⟩, fun w3 => ⟨fun _ => ⟨rfl, hR⟩, fun w4 => ?_⟩⟩⟩⟩
  rw [e3, e5] at w3
  rw [e6, e7] at w4
  exact absurd ⟨w3, by omega, w4.2⟩ hc
theorem T1_e {f m : Nat → Nat} {A : Nat → Nat → Nat} {i j : Nat} : T1 f m A i j = if j = i then 0 else if i < j then 100 else mn 100 (mn (tb A (f i) j) (tb A (m i) j) + 1) := rfl
/-- the law's rows with one person more -/
def lwP (s : Sg) (n fc mc ho ag dy : Nat) : Sg := stS (stS (stS s 20 0 n (nI (pkP ho 0 0 0 fc mc))) 21 0 n (nI dy - nI ag)) 30 0 1 (nI (n + 1))
def updN (f : Nat → Nat) (n v : Nat) : Nat → Nat := fun j => if j = n then v else f j
theorem pers_0 {ag fc mc ho dy : Nat} (h : Rg t fa mo T (rows s) s) (hn16 : s.1 0 < 16) (hf : fc ≤ s.1 0) (hm : mc ≤ s.1 0) (hfm : fc = 0 ∨ ¬ fc = mc) (ha : ag < 36001) (hh : ho < 8) (hd : s.2.1 1 0 7 = nI dy) (hdy : dy ≤ 10000 * t) (ht : t < 64) :
    sp_L_does [aR 1 0, aI 0, aI (nI ag), aI (nI fc - 1), aI (nI mc - 1), aI (nI ho)] (lwP s (s.1 0) fc mc ho ag dy) (Dnr (nI (s.1 0)) (t + 1) 30 1 (nI (s.1 0 + 1))) X := by
  have hn := Rg_n h
  have e1 := pc_iC (s := s) (f := fc) (by omega) (by omega)
  have e2 := pc_iC (s := s) (f := mc) (by omega) (by omega)
  have e3 := pc_m1 (f := fc) (by omega)
  have e4 := pc_m1 (f := mc) (by omega)
  have e5 : nI fc - 1 = nI mc - 1 → fc = mc := by
    intro q
    cases fc with
    | zero => exact ((m1_iff (by omega)).mp q.symm).symm
    | succ f =>
      cases mc with
      | zero => exact (m1_iff (by omega)).mp q
      | succ m =>
        rw [nI_pred, nI_pred] at q
        rw [(nI_eq (by omega) (by omega)).mp q]
  have e6 : (0 ≤ nI ag ∧ nI ag ≤ 36000) ↔ ag ≤ 36000 := rgL (b := 36000) (by omega) (by decide)
  have e7 : (0 ≤ nI ho ∧ nI ho < 8) ↔ ho < 8 := rgN (b := 8) (by omega) (by decide)
  obtain ⟨w, hw⟩ : ∃ w, w = lwP s (s.1 0) fc mc ho ag dy := ⟨_, rfl⟩
  have wo : ∀ a b c, a < 20 → w.2.1 a b c = s.2.1 a b c := fun a b c ha => by rw [hw]; unfold lwP; rw [stS_get, if_neg (by omega), stS_get, if_neg (by omega), stS_get, if_neg (by omega)]
  have wn : w.1 = s.1 := by rw [hw]; rfl
  have hCw : CI w := CI_fr wn (fun _ => wo _ _ _ (by decide)) (fun _ => wo _ _ _ (by decide)) (fun _ => wo _ _ _ (by decide)) (Rg_CI h)
  have hGw : GI w := by
    have := Rg_GI h
    unfold GI at this ⊢
    rw [wn]
    exact this
  have wiC : ∀ j, iC w 0 j = iC s 0 j := fun j => by unfold iC; rw [wn]
  rw [← hw]
  refine do_0 ⟨hCw, hGw, fun q => absurd (by rw [wiC, e1, e3]; omega) q, fun _ => ⟨fun q => absurd (by rw [wiC, e2, e4]; omega) q, fun _ => ⟨fun q => absurd (hfm.imp e3.mpr (fun z y => z (e5 y))) q, fun _ => ⟨fun q => absurd ⟨e6.mpr (by omega), e7.mpr hh⟩ q, fun _ => ⟨fun q => absurd (by rw [wn]; exact nI_lt (b := 24) (by omega) (by decide)) q, fun _ => ?_⟩⟩⟩⟩⟩
  obtain ⟨y, hy⟩ : ∃ y, y = perS w (nI ag) (nI fc - 1) (nI mc - 1) (nI ho) := ⟨_, rfl⟩
  rw [← hy, wn]
  have n0w : w.1 0 = s.1 0 := by rw [wn]
  obtain ⟨n0, no, nz, hGy, hg0⟩ := add_cnt (z := stS (persT w (nI ag) (nI fc - 1) (nI mc - 1) (nI ho)) 2 0 0 ((persT w (nI ag) (nI fc - 1) (nI mc - 1) (nI ho)).2.1 2 0 0 + 1)) (s := w) (a := 0) (by decide) (fun c hc => stC_ne hc) hGw (CI_0 hCw) (by omega)
  rw [show addS (stS (persT w (nI ag) (nI fc - 1) (nI mc - 1) (nI ho)) 2 0 0 ((persT w (nI ag) (nI fc - 1) (nI mc - 1) (nI ho)).2.1 2 0 0 + 1)) 0 = y from hy.symm] at n0 no nz hGy hg0
  have n1 := no 1 (by decide) (by decide)
  have n2 := no 2 (by decide) (by decide)
  rw [wn] at n0 n1 n2 nz
  have yw : ∀ t i j, ¬ t = 2 → ¬ ((t = 12 ∨ t = 6) ∧ i = s.1 0) → y.2.1 t i j = w.2.1 t i j := fun t i j k1 k2 => by
    rw [hy, per_2, if_neg (fun w => k1 w.1), perT_o (by rw [n0w]; exact k2)]
  have y12 : ∀ c, y.2.1 12 (s.1 0) c = (persT w (nI ag) (nI fc - 1) (nI mc - 1) (nI ho)).2.1 12 (w.1 0) c := fun c => by rw [hy, per_2, if_neg (fun w => absurd w.1 (by decide)), n0w]
  have y6 : ∀ c, y.2.1 6 (s.1 0) c = if c = s.1 0 then 0 else if c < s.1 0 then evC w (nI fc - 1) (nI mc - 1) c else w.2.1 6 (s.1 0) c := fun c => by
    rw [hy, per_2, if_neg (fun w => absurd w.1 (by decide))]
    have := perT_6 (s := w) (g := nI ag) (f := nI fc - 1) (m := nI mc - 1) (a := nI ho) (j := c)
    rw [n0w] at this
    exact this
  obtain ⟨t0, t1, t2, t3, t4, t5⟩ := perT_12 (s := w) (g := nI ag) (f := nI fc - 1) (m := nI mc - 1) (a := nI ho)
  rw [wo 1 0 7 (by decide), hd] at t0
  -- the class's and the law's places
  have yc : ∀ a b c, a < 20 → ¬ a = 2 → ¬ ((a = 12 ∨ a = 6) ∧ b = s.1 0) → y.2.1 a b c = s.2.1 a b c := fun a b c h1 h2 h3 => (yw a b c h2 h3).trans (wo a b c h1)
  have yl : ∀ a c, 20 ≤ a → ¬ (a = 20 ∧ c = s.1 0) → ¬ (a = 21 ∧ c = s.1 0) → ¬ (a = 30 ∧ c = 1) → y.2.1 a 0 c = s.2.1 a 0 c := fun a c h0 h1 h2 h3 => by
    rw [yw a 0 c (by omega) (by omega), hw]; unfold lwP
    rw [stS_get, if_neg (by omega), stS_get, if_neg (by omega), stS_get, if_neg (by omega)]
  have y20 : y.2.1 20 0 (s.1 0) = nI (pkP ho 0 0 0 fc mc) := by
    rw [yw _ _ _ (by decide) (by omega), hw]; unfold lwP
    rw [stS_get, if_neg (by omega), stS_get, if_neg (by omega), stS_get, if_pos ⟨rfl, rfl, rfl⟩]
  have y21 : y.2.1 21 0 (s.1 0) = nI dy - nI ag := by
    rw [yw _ _ _ (by decide) (by omega), hw]; unfold lwP
    rw [stS_get, if_neg (by omega), stS_get, if_pos ⟨rfl, rfl, rfl⟩]
  have y30 : y.2.1 30 0 1 = nI (s.1 0 + 1) := by
    rw [yw _ _ _ (by decide) (by omega), hw]; unfold lwP
    rw [stS_get, if_pos ⟨rfl, rfl, rfl⟩]
  refine ⟨rfl, ⟨updN fa (s.1 0) fc, updN mo (s.1 0) mc, fun i => if i = s.1 0 then (fun j => T1 (updN fa (s.1 0) fc) (updN mo (s.1 0) mc) T (s.1 0) j) else T i, ?_⟩, y30⟩
  obtain ⟨⟨a1, a2, a3, a4, a5, a6⟩, hP, h2, h3, h4, h5, h6⟩ := Rg_mono (t2 := t + 1) (Nat.le_succ t) h
  have hgy := of_eq_true hGy
  have hC9 := of_eq_true a1
  have up : ∀ (f : Nat → Nat) (v j : Nat), ¬ j = s.1 0 → updN f (s.1 0) v j = f j := fun f v j hj => if_neg hj
  refine ⟨⟨CI_mk9 hg0 (Gd_o n1.1 n1.2 (CI_1 a1)) (Gd_o n2.1 n2.2 (CI_2 a1)) (by rw [n0]; omega) (fun v hv => ?_) (fun c hc => ?_), hGy, ⟨nz.1.trans a3.1, nz.2.1.trans a3.2.1, nz.2.2.trans a3.2.2⟩, ⟨by rw [n0]; omega, by rw [n1.1]; exact a4.2.1, by rw [n2.1]; exact a4.2.2⟩, ⟨?_, ?_, ?_⟩, ?_⟩, ⟨fun j hj => ?_, fun j hj hj2 => ?_⟩, fun v hv => ?_, ?_, ?_, ?_, ⟨fun i j hi hj => ?_, fun i j hi hi2 hj => ?_⟩⟩
  · rw [show y.1 7 = 0 from hgy.1.2.1, n1.1] at hv
    obtain ⟨i1, i2⟩ := hC9.2.2.2.2.1 v (show v < s.1 1 + s.1 7 by omega)
    rw [yc 13 v 0 (by decide) (by decide) (by omega), yc 13 v 1 (by decide) (by decide) (by omega)]
    exact ⟨iC_up (by rw [n0]; omega) (by rw [n0]; omega) i1, iC_up (by rw [n0]; omega) (by rw [n0]; omega) i2⟩
  · rw [show y.1 8 = 0 from hgy.1.2.2, n2.1] at hc
    have i1 := hC9.2.2.2.2.2 c (show c < s.1 2 + s.1 8 by omega)
    rw [yc 14 c 0 (by decide) (by decide) (by omega)]
    exact iC_up (by rw [n1.1]; omega) (by rw [n1.1]; omega) i1
  · rw [n0]; exact y30
  · rw [n1.1]; exact (yl 30 2 (by decide) (by omega) (by omega) (by omega)).trans a5.2.1
  · rw [n2.1]; exact (yl 30 3 (by decide) (by omega) (by omega) (by omega)).trans a5.2.2
  · obtain ⟨dd, d1, d2, d3⟩ := a6
    exact ⟨dd, d1, (yc 1 0 7 (by decide) (by decide) (by omega)).trans d2, (yl 30 0 (by decide) (by omega) (by omega) (by omega)).trans d3⟩
  · rw [n0] at hj
    by_cases e : j = s.1 0
    · subst e
      refine ⟨by unfold updN; rw [if_pos rfl]; exact hf, by unfold updN; rw [if_pos rfl]; exact hm, ho, 0, 0, 0, 1, ⟨hh, by decide, by decide, by decide, by decide⟩, ⟨?_, ?_, ?_, ?_, ?_⟩, ?_, ?_, ?_, Or.inl ⟨rfl, ?_⟩⟩
      · rw [y12, t1]
      · rw [y12, t2]; rfl
      · rw [y12, t3]; rfl
      · rw [y12, t4]; rfl
      · rw [y12, t5]; rfl
      · unfold updN; rw [if_pos rfl, if_pos rfl]; exact y20
      · rw [y12, t0]; exact y21
      · rw [y12, t0]
        have ed : (nI dy).toInt = dy := nI_toInt (by omega)
        have eg : (nI ag).toInt = ag := nI_toInt (by omega)
        rw [sub_toInt (by rw [ed, eg]; omega) (by rw [ed, eg]; omega), ed, eg]
        omega
      · exact (yl 21 (16 + s.1 0) (by decide) (by omega) (by omega) (by omega)).trans (hP.2 (s.1 0) (Nat.le_refl _) hn16)
    · obtain ⟨p1, p2, p3⟩ := hP.1 j (by omega)
      refine ⟨by rw [up _ _ _ e]; exact p1, by rw [up _ _ _ e]; exact p2, ?_⟩
      unfold P1 rows at p3 ⊢
      rw [up _ _ _ e, up _ _ _ e, yc 12 j 0 (by decide) (by decide) (by omega), yc 12 j 1 (by decide) (by decide) (by omega), yc 12 j 2 (by decide) (by decide) (by omega), yc 12 j 3 (by decide) (by decide) (by omega), yc 12 j 4 (by decide) (by decide) (by omega), yc 12 j 5 (by decide) (by decide) (by omega), yl 20 j (by decide) (by omega) (by omega) (by omega), yl 21 j (by decide) (by omega) (by omega) (by omega), yl 21 (16 + j) (by decide) (by omega) (by omega) (by omega)]
      exact p3
  · rw [n0] at hj
    exact (yl 21 (16 + j) (by decide) (by omega) (by omega) (by omega)).trans (hP.2 j (by omega) hj2)
  · rw [n1.1] at hv
    obtain ⟨one, oth, pl, lk, st, la, v1, v2, v3, v4, v5, v6⟩ := h2 v hv
    have g : ∀ c, y.2.1 13 v c = s.2.1 13 v c := fun c => yc 13 v c (by decide) (by decide) (by omega)
    refine ⟨one, oth, pl, lk, st, la, ⟨by omega, by omega, v1.2.2⟩, by simp only [g]; exact v2, (yl 24 v (by decide) (by omega) (by omega) (by omega)).trans v3, ?_, ?_, fun q => ?_⟩
    · rw [g]; exact (yl 25 v (by decide) (by omega) (by omega) (by omega)).trans v4
    · rw [g]; exact (yl 25 (16 + v) (by decide) (by omega) (by omega) (by omega)).trans v5
    · rw [yc 12 one 5 (by decide) (by decide) (by omega), yc 12 oth 5 (by decide) (by decide) (by omega)]
      exact v6 q
  · exact RC_fr (r := rows s) (s := s) n1.1 n2.1 (fun _ _ => yc _ _ _ (by decide) (by decide) (by omega)) (fun _ _ => yc _ _ _ (by decide) (by decide) (by omega)) (fun _ _ => yc _ _ _ (by decide) (by decide) (by omega)) (fun _ _ => yc _ _ _ (by decide) (by decide) (by omega)) (fun _ _ => yl _ _ (by decide) (by omega) (by omega) (by omega)) (fun _ _ => yl _ _ (by decide) (by omega) (by omega) (by omega)) (fun _ _ => yl _ _ (by decide) (by omega) (by omega) (by omega)) (fun _ _ => yl _ _ (by decide) (by omega) (by omega) (by omega)) a4.2.2 h3
  · exact RF9_fr (r := rows s) (s := s) (fun _ _ => yc _ _ _ (by decide) (by decide) (by omega)) (fun _ => yc _ _ _ (by decide) (by decide) (by omega)) (fun _ => yl _ _ (by decide) (by omega) (by omega) (by omega)) h4
  · exact RD_fr (r := rows s) (s := s) (fun _ _ => yc _ _ _ (by decide) (by decide) (by omega)) (fun _ => yl _ _ (by decide) (by omega) (by omega) (by omega)) h5
  · rw [n0] at hi
    -- steps of parents
    have tbe : ∀ f, f ≤ s.1 0 → tb (fun i => if i = s.1 0 then (fun j => T1 (updN fa (s.1 0) fc) (updN mo (s.1 0) mc) T (s.1 0) j) else T i) f j = tb T f j := fun f hf => by
      unfold tb
      by_cases h0 : f = 0
      · rw [if_pos h0, if_pos h0]
      · rw [if_neg h0, if_neg h0]
        dsimp only
        rw [if_neg (show ¬ f - 1 = s.1 0 by omega)]
    by_cases e : i = s.1 0
    · subst e
      have uf : updN fa (s.1 0) fc (s.1 0) = fc := if_pos rfl
      have um : updN mo (s.1 0) mc (s.1 0) = mc := if_pos rfl
      dsimp only
      rw [if_pos rfl]
      have sb : ∀ f, f ≤ s.1 0 → j < s.1 0 → sbC w (nI f - 1) j = nI (tb T f j) ∧ tb T f j ≤ 100 := by
        intro f hf hj2
        unfold sbC tb
        by_cases h0 : f = 0
        · rw [if_pos ((pc_m1 (by omega)).mpr h0), if_pos h0]
          exact ⟨rfl, Nat.le_refl _⟩
        · have ef : nI f - 1 = nI (f - 1) := pk_sub (b := 1) (by omega)
          rw [if_neg (fun q => h0 ((pc_m1 (by omega)).mp q)), if_neg h0, ef, clN (by omega), wo 6 _ _ (by decide)]
          obtain ⟨g1, g2⟩ := h6.1 (f - 1) j (by omega) hj
          refine ⟨g1, ?_⟩
          have := TT_le hn.1 (Rg_TT h) (f - 1) (by omega) j hj
          omega
      constructor
      · rw [y6]
        unfold T1
        by_cases c1 : j = s.1 0
        · rw [if_pos c1, if_pos c1]; rfl
        · rw [if_neg c1, if_neg c1]
          by_cases c2 : j < s.1 0
          · rw [if_pos c2, if_neg (by omega), uf, um]
            unfold evC
            obtain ⟨s1, s2⟩ := sb fc hf c2
            obtain ⟨s3, s4⟩ := sb mc hm c2
            rw [s1, s3]
            unfold mmn mn
            have l1 : nI (tb T mc j) < nI (tb T fc j) ↔ tb T mc j < tb T fc j := nI_ltI (by omega) (by omega)
            by_cases c3 : tb T mc j < tb T fc j
            · rw [if_pos (l1.mpr c3), if_pos c3, nIs]
              by_cases c4 : tb T mc j + 1 < 100
              · rw [if_pos (show nI (tb T mc j + 1) < (100 : Int32) from nI_lt (b := 100) c4 (by decide)), if_pos c4]
              · rw [if_neg (show ¬ nI (tb T mc j + 1) < (100 : Int32) from nI_nlt (a := tb T mc j + 1) (b := 100) (by omega) (by omega)), if_neg c4]; rfl
            · rw [if_neg (fun q => c3 (l1.mp q)), if_neg c3, nIs]
              by_cases c4 : tb T fc j + 1 < 100
              · rw [if_pos (show nI (tb T fc j + 1) < (100 : Int32) from nI_lt (b := 100) c4 (by decide)), if_pos c4]
              · rw [if_neg (show ¬ nI (tb T fc j + 1) < (100 : Int32) from nI_nlt (a := tb T fc j + 1) (b := 100) (by omega) (by omega)), if_neg c4]; rfl
          · rw [if_neg c2, if_pos (by omega), wo 6 _ _ (by decide)]
            exact h6.2 (s.1 0) j (Nat.le_refl _) (by omega) hj
      · rw [T1_e, T1_e, uf, um, tbe _ hf, tbe _ hm]
    · obtain ⟨g1, g2⟩ := h6.1 i j (by omega) hj
      obtain ⟨p1, p2, -⟩ := hP.1 i (by omega)
      dsimp only
      rw [if_neg e]
      refine ⟨(yc 6 i j (by decide) (by decide) (by omega)).trans g1, ?_⟩
      rw [g2, T1_e, T1_e, up _ _ _ e, up _ _ _ e, tbe _ (by omega), tbe _ (by omega)]
  · rw [n0] at hi
    exact (yc 6 i j (by decide) (by decide) (by omega)).trans (h6.2 i j (by omega) hi2 hj)
end Do7

