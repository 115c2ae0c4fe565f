/-! the calls: a new vow, a new cause -/
section Do9
variable {t : Nat} {fa mo : Nat → Nat} {T : Nat → Nat → Nat} {s s' : Sg} {X : Xt} {k : Nat}
theorem vow_2 {p q a f : Int32} {t i j : Nat} : (vowS s p q a f).2.1 t i j = if t = 2 ∧ i = 1 ∧ j = 0 then (vowT s p q a f).2.1 2 1 0 + 1 else (vowT s p q a f).2.1 t i j := by
  unfold vowS
  rw [addS_2]
  rfl
theorem vowT_o {p q a f : Int32} {t i j : Nat} (h : ¬ (t = 13 ∧ i = s.1 1)) : (vowT s p q a f).2.1 t i j = s.2.1 t i j := by
  unfold vowT viC
  have e : ∀ t' i' j' v' (z : Sg), t' = 13 → i' = s.1 1 → (stS z t' i' j' v').2.1 t i j = z.2.1 t i j := fun t' i' j' v' z k1 k2 => by
    rw [stS_get, if_neg (fun w => h ⟨w.1.trans k1, w.2.1.trans k2⟩)]
  rw [e _ _ _ _ _ rfl rfl, e _ _ _ _ _ rfl rfl, e _ _ _ _ _ rfl rfl, e _ _ _ _ _ rfl rfl, e _ _ _ _ _ rfl rfl, e _ _ _ _ _ rfl rfl, e _ _ _ _ _ rfl rfl, e _ _ _ _ _ rfl rfl]
  show (if t = 12 + 1 ∧ i = s.1 1 then 0 else s.2.1 t i j) = _
  rw [if_neg h]
theorem vowT_13 {p q a f : Int32} : (vowT s p q a f).2.1 13 (s.1 1) 0 = p ∧ (vowT s p q a f).2.1 13 (s.1 1) 1 = q ∧ (vowT s p q a f).2.1 13 (s.1 1) 2 = a ∧ (vowT s p q a f).2.1 13 (s.1 1) 3 = s.2.1 1 0 7 ∧ (vowT s p q a f).2.1 13 (s.1 1) 4 = lhC s p q ∧ (vowT s p q a f).2.1 13 (s.1 1) 5 = f ∧ (vowT s p q a f).2.1 13 (s.1 1) 6 = 0 ∧ (vowT s p q a f).2.1 13 (s.1 1) 7 = -1 := by
  have el : lhC (newS s 1 1) p q = lhC s p q := lh_o (fun b c => rfl) (fun b c => rfl) (fun b c => rfl) (fun b c => rfl)
  have et : (newS s 1 1).2.1 1 0 7 = s.2.1 1 0 7 := rfl
  unfold vowT viC
  rw [el, et]
  refine ⟨?_, ?_, ?_, ?_, ?_, ?_, ?_, ?_⟩
  all_goals simp [stS_get]
theorem cau_2 {v x : Int32} {a b c : Nat} : (cauS s v x).2.1 a b c = if a = 2 ∧ b = 2 ∧ c = 0 then (newC s v x).2.1 2 2 0 + 1 else (newC s v x).2.1 a b c := by
  unfold cauS
  rw [addS_2]
  rfl

theorem vow_1 {p q : Nat} {a w : Int32} (hR : Rl t s) (hp : p < 100) (hq : q < 100) (hc : ¬ (p < s.1 0 ∧ q < s.1 0)) : sp_L_does [aR 1 0, aI 9, aI (nI p), aI (nI q), aI a, aI w] s (Dn (-3000000) t) X := by
  have e1 := iCs hR (k := 0) (by decide) hp
  have e2 := iCs hR (k := 0) (by decide) hq
  exact do_9 ⟨Rl_CI hR, Rl_GI hR, fun _ => ⟨rfl, hR⟩, fun z1 => ⟨fun _ => ⟨rfl, hR⟩, fun z2 => absurd ⟨e1.mp z1, e2.mp z2⟩ hc⟩⟩
theorem vow_2f {p q a : Nat} {w : Int32} (hR : Rl t s) (hp : p < s.1 0) (hq : q < s.1 0) (ha : a < 100) (hc : ¬ (¬ p = q ∧ a < 8 ∧ (0 ≤ w ∧ w < 6))) : sp_L_does [aR 1 0, aI 9, aI (nI p), aI (nI q), aI (nI a), aI w] s (Dn (-2000000) t) X := by
  have := Rl_n hR
  have e1 := iCs hR (k := 0) (by decide) (j := p) (by omega)
  have e2 := iCs hR (k := 0) (by decide) (j := q) (by omega)
  exact do_9 ⟨Rl_CI hR, Rl_GI hR, fun z => absurd (e1.mpr hp) z, fun _ => ⟨fun z => absurd (e2.mpr hq) z, fun _ => ⟨fun _ => ⟨rfl, hR⟩, fun z => absurd ⟨fun w => z.1 (by rw [w]), (rgN (b := 8) (by omega) (by decide)).mp z.2.1, z.2.2⟩ hc⟩⟩⟩
theorem mayV_cl {i ho ri od ba li : Nat} (hi : i < 100) (hP : Pp fa mo s i ho ri od ba li) : mayV s (nI i) ↔ (li = 1 ∧ ba = 0) := by
  have hb := hP.1
  unfold mayV
  rw [clN (by omega), hP.2.1.2.2.2.1, hP.2.1.2.2.2.2, n0 (by omega), n0 (by omega)]
  omega
theorem vow_3 {p q a w ho ri od ba li ho2 ri2 od2 ba2 li2 : Nat} (h : Rg t fa mo T (rows s) s) (hp : p < s.1 0) (hq : q < s.1 0) (hpq : ¬ p = q) (ha : a < 8) (hw : w < 6) (hP : Pp fa mo s p ho ri od ba li) (hQ : Pp fa mo s q ho2 ri2 od2 ba2 li2) (hc : ¬ ((li = 1 ∧ ba = 0) ∧ li2 = 1 ∧ ba2 = 0)) :
    sp_L_does [aR 1 0, aI 9, aI (nI p), aI (nI q), aI (nI a), aI (nI w)] s (Dn (-1000000) t) X := by
  have hR := Rl_of h
  have := Rg_n h
  have e1 := iCs hR (k := 0) (by decide) (j := p) (by omega)
  have e2 := iCs hR (k := 0) (by decide) (j := q) (by omega)
  have ne : ¬ nI p = nI q := fun z => hpq ((nI_eq (by omega) (by omega)).mp z)
  refine do_9 ⟨Rl_CI hR, Rl_GI hR, fun z => absurd (e1.mpr hp) z, fun _ => ⟨fun z => absurd (e2.mpr hq) z, fun _ => ⟨fun z => absurd ⟨ne, (rgN (b := 8) (by omega) (by decide)).mpr ha, (rgN (b := 6) (by omega) (by decide)).mpr hw⟩ z, fun _ => ⟨fun _ => ⟨rfl, hR⟩, fun z => ?_⟩⟩⟩⟩
  rw [mayV_cl (by omega) hP, mayV_cl (by omega) hQ] at z
  exact absurd ⟨z.1, z.2.1⟩ hc
/-- the law's rows with one vow more -/
def lwV (s : Sg) (n p q pl lk la dy : Nat) : Sg := stS (stS (stS (stS s 24 0 n (nI (pkV p q pl lk 0 la))) 25 0 n (nI dy)) 25 0 (16 + n) (-1)) 30 0 2 (nI (n + 1))
theorem vow_0 {p q a w lk la dy ho ri od ba li ho2 ri2 od2 ba2 li2 : Nat} (h : Rg t fa mo T (rows s) s) (hn16 : s.1 1 < 16) (hp : p < s.1 0) (hq : q < s.1 0) (hpq : ¬ p = q) (ha : a < 8) (hw : w < 6) (hP : Pp fa mo s p ho ri od ba li) (hQ : Pp fa mo s q ho2 ri2 od2 ba2 li2)
    (hc : (li = 1 ∧ ba = 0) ∧ li2 = 1 ∧ ba2 = 0) (hlk : (lk = 1 ∧ (wantsF s (nI p) (nI q) ∧ ¬ hasF s (nI a) (nI w))) ∨ (lk = 0 ∧ ¬ (wantsF s (nI p) (nI q) ∧ ¬ hasF s (nI a) (nI w)))) (hla : la < 16) (hlh : lhC s (nI p) (nI q) = nI la) (hd : s.2.1 1 0 7 = nI dy) :
    sp_L_does [aR 1 0, aI 9, aI (nI p), aI (nI q), aI (nI a), aI (nI w)] (lwV s (s.1 1) p q a lk la dy) (Dnr (nI (s.1 1)) (t + 1) 30 2 (nI (s.1 1 + 1))) X := by
  have hn := Rg_n h
  have ne : ¬ nI p = nI q := fun z => hpq ((nI_eq (by omega) (by omega)).mp z)
  obtain ⟨w1, hw1⟩ : ∃ w, w = lwV s (s.1 1) p q a lk la dy := ⟨_, rfl⟩
  have wo : ∀ a b c, a < 20 → w1.2.1 a b c = s.2.1 a b c := fun a b c ha => by rw [hw1]; unfold lwV; rw [stS_get, if_neg (by omega), stS_get, if_neg (by omega), stS_get, if_neg (by omega), stS_get, if_neg (by omega)]
  have wn : w1.1 = s.1 := by rw [hw1]; rfl
  have hCw : CI w1 := CI_fr wn (fun _ => wo _ _ _ (by decide)) (fun _ => wo _ _ _ (by decide)) (fun _ => wo _ _ _ (by decide)) (Rg_CI h)
  have hGw : GI w1 := by
    have := Rg_GI h
    unfold GI at this ⊢
    rw [wn]
    exact this
  have wiC : ∀ j, iC w1 0 j = iC s 0 j := fun j => by unfold iC; rw [wn]
  have i1 : iC s 0 (nI p) := (iC_N (by omega) (by omega)).mpr hp
  have i2 : iC s 0 (nI q) := (iC_N (by omega) (by omega)).mpr hq
  have em : ∀ x, mayV w1 x = mayV s x := fun x => by unfold mayV; rw [wo _ _ _ (by decide), wo _ _ _ (by decide)]
  have ew : wantsF w1 (nI p) (nI q) = wantsF s (nI p) (nI q) := by unfold wantsF; rw [wo _ _ _ (by decide), wo _ _ _ (by decide)]
  have eh : hasF w1 (nI a) (nI w) = hasF s (nI a) (nI w) := by unfold hasF; rw [wo _ _ _ (by decide), wo _ _ _ (by decide), wo _ _ _ (by decide)]
  have m1 := (mayV_cl (by omega) hP).mpr hc.1
  have m2 := (mayV_cl (by omega) hQ).mpr hc.2
  have l30 : nI (s.1 1) < 30 := nI_lt (b := 30) (by omega) (by decide)
  have lk2 : lk < 2 := by omega
  rw [← hw1]
  have fin : ∀ f : Int32, f = nI lk → (some (aI (nI ((vowS w1 (nI p) (nI q) (nI a) f).1 1) - 1)) : Option AV) = some (aI (nI (s.1 1))) ∧ Rl (t + 1) (vowS w1 (nI p) (nI q) (nI a) f) ∧ (vowS w1 (nI p) (nI q) (nI a) f).2.1 30 0 2 = nI (s.1 1 + 1) := by
    rintro f rfl
    have n0w : w1.1 1 = s.1 1 := by rw [wn]
    obtain ⟨y, hy⟩ : ∃ y, y = vowS w1 (nI p) (nI q) (nI a) (nI lk) := ⟨_, rfl⟩
    obtain ⟨n1, no, nz, hGy, hg1⟩ := add_cnt (z := stS (vowT w1 (nI p) (nI q) (nI a) (nI lk)) 2 1 0 ((vowT w1 (nI p) (nI q) (nI a) (nI lk)).2.1 2 1 0 + 1)) (s := w1) (a := 1) (by decide) (fun c hc => show (newS w1 1 1).1 c = w1.1 c from stC_ne hc) hGw (CI_1 hCw) (by omega)
    rw [show addS (stS (vowT w1 (nI p) (nI q) (nI a) (nI lk)) 2 1 0 ((vowT w1 (nI p) (nI q) (nI a) (nI lk)).2.1 2 1 0 + 1)) 1 = y from hy.symm] at n1 no nz hGy hg1
    have n0 := no 0 (by decide) (by decide)
    have n2 := no 2 (by decide) (by decide)
    rw [wn] at n0 n1 n2 nz
    have yw : ∀ t i j, ¬ t = 2 → ¬ (t = 13 ∧ i = s.1 1) → y.2.1 t i j = w1.2.1 t i j := fun t i j k1 k2 => by
      rw [hy, vow_2, if_neg (fun w => k1 w.1), vowT_o (by rw [n0w]; exact k2)]
    have y13 : ∀ c, y.2.1 13 (s.1 1) c = (vowT w1 (nI p) (nI q) (nI a) (nI lk)).2.1 13 (w1.1 1) c := fun c => by rw [hy, vow_2, if_neg (fun w => absurd w.1 (by decide)), n0w]
    obtain ⟨t0, t1, t2, t3, t4, t5, t6, t7⟩ := vowT_13 (s := w1) (p := nI p) (q := nI q) (a := nI a) (f := nI lk)
    have hlo : lhC w1 (nI p) (nI q) = lhC s (nI p) (nI q) := lh_o (fun _ _ => wo _ _ _ (by decide)) (fun _ _ => wo _ _ _ (by decide)) (fun _ _ => wo _ _ _ (by decide)) (fun _ _ => wo _ _ _ (by decide))
    rw [wo 1 0 7 (by decide), hd] at t3
    rw [hlo, hlh] at t4
    have yc : ∀ a b c, a < 20 → ¬ a = 2 → ¬ (a = 13 ∧ b = s.1 1) → y.2.1 a b c = s.2.1 a b c := fun a b c h1 h2 h3 => (yw a b c h2 h3).trans (wo a b c h1)
    have yl : ∀ a c, 20 ≤ a → ¬ (a = 24 ∧ c = s.1 1) → ¬ (a = 25 ∧ (c = s.1 1 ∨ c = 16 + s.1 1)) → ¬ (a = 30 ∧ c = 2) → y.2.1 a 0 c = s.2.1 a 0 c := fun a c h0 h1 h2 h3 => by
      rw [yw a 0 c (by omega) (by omega), hw1]; unfold lwV
      rw [stS_get, if_neg (by omega), stS_get, if_neg (by omega), stS_get, if_neg (by omega), stS_get, if_neg (by omega)]
    have y24 : y.2.1 24 0 (s.1 1) = nI (pkV p q a lk 0 la) := by
      rw [yw _ _ _ (by decide) (by omega), hw1]; unfold lwV
      rw [stS_get, if_neg (by omega), stS_get, if_neg (by omega), stS_get, if_neg (by omega), stS_get, if_pos ⟨rfl, rfl, rfl⟩]
    have y25 : y.2.1 25 0 (s.1 1) = nI dy := by
      rw [yw _ _ _ (by decide) (by omega), hw1]; unfold lwV
      rw [stS_get, if_neg (by omega), stS_get, if_neg (by omega), stS_get, if_pos ⟨rfl, rfl, rfl⟩]
    have y25b : y.2.1 25 0 (16 + s.1 1) = -1 := by
      rw [yw _ _ _ (by decide) (by omega), hw1]; unfold lwV
      rw [stS_get, if_neg (by omega), stS_get, if_pos ⟨rfl, rfl, rfl⟩]
    have y30 : y.2.1 30 0 2 = nI (s.1 1 + 1) := by
      rw [yw _ _ _ (by decide) (by omega), hw1]; unfold lwV
      rw [stS_get, if_pos ⟨rfl, rfl, rfl⟩]
    rw [← hy]
    refine ⟨by rw [n1, nI_pred], ⟨fa, mo, T, ?_⟩, y30⟩
    obtain ⟨⟨a1, a2, a3, a4, a5, a6⟩, hPe, h2, h3, h4, h5, h6⟩ := Rg_mono (t2 := t + 1) (Nat.le_succ t) h
    have hgy := of_eq_true hGy
    have hC9 := of_eq_true a1
    refine ⟨⟨CI_mk9 (Gd_o n0.1 n0.2 (CI_0 a1)) hg1 (Gd_o n2.1 n2.2 (CI_2 a1)) (by rw [n0.1]; omega) (fun v hv => ?_) (fun c hc => ?_), hGy, ⟨nz.1.trans a3.1, nz.2.1.trans a3.2.1, nz.2.2.trans a3.2.2⟩, ⟨by rw [n0.1]; exact a4.1, by rw [n1]; omega, by rw [n2.1]; exact a4.2.2⟩, ⟨?_, ?_, ?_⟩, ?_⟩, ?_, fun v hv => ?_, ?_, ?_, ?_, ?_⟩
    · rw [show y.1 7 = 0 from hgy.1.2.1, n1] at hv
      by_cases hv2 : v = s.1 1
      · rw [hv2, y13, y13, t0, t1]
        exact ⟨iC_up (by rw [n0.1]; exact Nat.le_refl _) (by rw [n0.1]; omega) i1, iC_up (by rw [n0.1]; exact Nat.le_refl _) (by rw [n0.1]; omega) i2⟩
      · obtain ⟨j1, j2⟩ := hC9.2.2.2.2.1 v (show v < s.1 1 + s.1 7 by omega)
        rw [yc 13 v 0 (by decide) (by decide) (by omega), yc 13 v 1 (by decide) (by decide) (by omega)]
        exact ⟨iC_up (by rw [n0.1]; exact Nat.le_refl _) (by rw [n0.1]; omega) j1, iC_up (by rw [n0.1]; exact Nat.le_refl _) (by rw [n0.1]; omega) j2⟩
    · rw [show y.1 8 = 0 from hgy.1.2.2, n2.1] at hc
      have i1 := hC9.2.2.2.2.2 c (show c < s.1 2 + s.1 8 by omega)
      rw [yc 14 c 0 (by decide) (by decide) (by omega)]
      exact iC_up (by rw [n1]; omega) (by rw [n1]; omega) i1
    · rw [n0.1]; exact (yl 30 1 (by decide) (by omega) (by omega) (by omega)).trans a5.1
    · rw [n1]; exact y30
    · rw [n2.1]; exact (yl 30 3 (by decide) (by omega) (by omega) (by omega)).trans a5.2.2
    · obtain ⟨dd, d1, d2, d3⟩ := a6
      exact ⟨dd, d1, (yc 1 0 7 (by decide) (by decide) (by omega)).trans d2, (yl 30 0 (by decide) (by omega) (by omega) (by omega)).trans d3⟩
    · exact RPe_fr (r := rows s) (s := s) n0.1 (fun _ _ => yc _ _ _ (by decide) (by decide) (by omega)) (fun _ _ => yl _ _ (by decide) (by omega) (by omega) (by omega)) (fun _ _ => yl _ _ (by decide) (by omega) (by omega) (by omega)) a4.1 hPe
    · rw [n1] at hv
      by_cases hv2 : v = s.1 1
      · subst hv2
        refine ⟨p, q, a, lk, 0, la, ⟨by rw [n0.1]; exact hp, by rw [n0.1]; exact hq, ha, lk2, by decide, hla⟩, ⟨?_, ?_, ?_, ?_, ?_, ?_⟩, y24, ?_, ?_, fun _ => ?_⟩
        · rw [y13, t0]
        · rw [y13, t1]
        · rw [y13, t2]
        · rw [y13, t5]
        · rw [y13, t6]; rfl
        · rw [y13, t4]
        · rw [y13, t3]; exact y25
        · rw [y13, t7]; exact y25b
        · rw [yc 12 p 5 (by decide) (by decide) (by omega), yc 12 q 5 (by decide) (by decide) (by omega), hP.2.1.2.2.2.2, hQ.2.1.2.2.2.2, hc.1.1, hc.2.1]
          exact ⟨rfl, rfl⟩
      · obtain ⟨one, oth, pl, lk', st, la', v1, v2, v3, v4, v5, v6⟩ := h2 v (by omega)
        have g : ∀ c, y.2.1 13 v c = s.2.1 13 v c := fun c => yc 13 v c (by decide) (by decide) (by omega)
        refine ⟨one, oth, pl, lk', st, la', ⟨by rw [n0.1]; exact v1.1, by rw [n0.1]; exact v1.2.1, v1.2.2⟩, by simp only [g]; exact v2, (yl 24 v (by decide) (by omega) (by omega) (by omega)).trans v3, ?_, ?_, fun q => ?_⟩
        · rw [g]; exact (yl 25 v (by decide) (by omega) (by omega) (by omega)).trans v4
        · rw [g]; exact (yl 25 (16 + v) (by decide) (by omega) (by omega) (by omega)).trans v5
        · rw [yc 12 one 5 (by decide) (by decide) (by omega), yc 12 oth 5 (by decide) (by decide) (by omega)]
          exact v6 q
    · have e3 := h3
      refine ⟨fun k hk => ?_, fun k hk hk2 => ?_⟩
      · rw [n2.1] at hk
        obtain ⟨vw, db, st, ins, a', b', d', x', y', z', q1, q2, q3, q4, q5, q6, q7, q8, q9, q10⟩ := h3.1 k hk
        refine ⟨vw, db, st, ins, a', b', d', x', y', z', ⟨by rw [n1]; omega, q1.2⟩, q2, by rw [yc 14 _ _ (by decide) (by decide) (by omega), yc 14 _ _ (by decide) (by decide) (by omega), yc 14 _ _ (by decide) (by decide) (by omega), yc 14 _ _ (by decide) (by decide) (by omega)]; exact q3, (yl 26 k (by decide) (by omega) (by omega) (by omega)).trans q4, by rw [yc 16 _ _ (by decide) (by decide) (by omega), yc 16 _ _ (by decide) (by decide) (by omega), yc 16 _ _ (by decide) (by decide) (by omega)]; exact q5, (yl 28 k (by decide) (by omega) (by omega) (by omega)).trans q6,
          by rw [yc 17 _ _ (by decide) (by decide) (by omega), yc 17 _ _ (by decide) (by decide) (by omega), yc 17 _ _ (by decide) (by decide) (by omega)]; exact q7, (yl 29 k (by decide) (by omega) (by omega) (by omega)).trans q8, fun j hj => ?_, q10⟩
        rw [yc 15 _ _ (by decide) (by decide) (by omega)]
        exact ⟨(yl 27 (7 * k + j) (by decide) (by omega) (by omega) (by omega)).trans (q9 j hj).1, (q9 j hj).2⟩
      · rw [n2.1] at hk
        obtain ⟨z1, z2, z3⟩ := h3.2 k hk hk2
        exact ⟨(yl 28 k (by decide) (by omega) (by omega) (by omega)).trans z1, (yl 29 k (by decide) (by omega) (by omega) (by omega)).trans z2, fun j hj => (yl 27 (7 * k + j) (by decide) (by omega) (by omega) (by omega)).trans (z3 j hj)⟩
    · exact RF9_fr (r := rows s) (s := s) (fun _ _ => yc _ _ _ (by decide) (by decide) (by omega)) (fun _ => yc _ _ _ (by decide) (by decide) (by omega)) (fun _ => yl _ _ (by decide) (by omega) (by omega) (by omega)) h4
    · exact RD_fr (r := rows s) (s := s) (fun _ _ => yc _ _ _ (by decide) (by decide) (by omega)) (fun _ => yl _ _ (by decide) (by omega) (by omega) (by omega)) h5
    · have e6 : ∀ k c, y.2.1 6 k c = s.2.1 6 k c := fun k c => yc _ _ _ (by decide) (by decide) (by omega)
      unfold RS at h6 ⊢
      simp only [n0.1, e6]
      exact h6
  refine do_9 ⟨hCw, hGw, fun z => absurd (by rw [wiC]; exact i1) z, fun _ => ⟨fun z => absurd (by rw [wiC]; exact i2) z, fun _ => ⟨fun z => absurd ⟨ne, (rgN (b := 8) (by omega) (by decide)).mpr ha, (rgN (b := 6) (by omega) (by decide)).mpr hw⟩ z, fun _ => ⟨fun z => absurd ⟨by rw [em]; exact m1, by rw [em]; exact m2, by rw [wn]; exact l30⟩ z, fun _ => ⟨fun z => ?_, fun z => ?_⟩⟩⟩⟩⟩
  · rw [ew, eh] at z
    exact fin 1 (by rcases hlk with ⟨rfl, -⟩ | ⟨-, z2⟩; rfl; exact absurd z z2)
  · rw [ew, eh] at z
    exact fin 0 (by rcases hlk with ⟨-, z2⟩ | ⟨rfl, -⟩; exact absurd z2 z; rfl)
/-- whose court it is -/
theorem laC_cl {i ho ri od ba li a : Nat} (hi : i < 100) (ha : a < 100) (hP : Pp fa mo s i ho ri od ba li) : laC s (nI i) (nI a) ↔ (li = 1 ∧ ho = a) := by
  have hb := hP.1
  unfold laC
  rw [clN (by omega), hP.2.1.1, hP.2.1.2.2.2.2, n0 (by omega), nI_eq (by omega) (by omega)]
  omega
theorem ic_cl {v a one oth pl lk st la ho ri od ba li ho2 ri2 od2 ba2 li2 : Nat} (hn : s.1 0 ≤ 16) (ha : a < 100) (hv : Vp s v one oth pl lk st la) (hP : Pp fa mo s one ho ri od ba li) (hQ : Pp fa mo s oth ho2 ri2 od2 ba2 li2) : icourt s v (nI a) ↔ (pl = a ∨ (li = 1 ∧ ho = a) ∨ (li2 = 1 ∧ ho2 = a)) := by
  have hb := hv.1
  unfold icourt
  rw [hv.2.1.1, hv.2.1.2.1, hv.2.1.2.2.1, laC_cl (by omega) ha hP, laC_cl (by omega) ha hQ, nI_eq (by omega) (by omega)]
  omega
theorem mbj_cl {v one oth pl lk st la : Nat} (h : Rg t fa mo T (rows s) s) (hv : v < s.1 1) (hV : Vp s v one oth pl lk st la) : mbj s (nI v) ↔ ((st = 0 ∨ st = 3) ∧ ∀ j, j < s.1 2 → quP s (nI v) (-1) j) := by
  have hn := Rg_n h
  have hb := hV.1
  unfold mbj
  rw [clN (by omega), hV.2.1.2.2.2.2.1, qu_cl h (by omega) (Or.inl rfl), n0 (by omega), show nI st = 3 ↔ st = 3 from nI_eq (b := 3) (by omega) (by decide)]
theorem caus_1 {v : Nat} {a x b : Int32} (hR : Rl t s) (hb : b = 0 ∨ b = 1) (hv : ¬ v < s.1 1) (hv2 : v < 100) : sp_L_does [aR 1 0, aI 13, aI (nI v), aI a, aI x, aI b] s (Dn (-3000000) t) X := by
  have e1 := iCs hR (k := 1) (by decide) hv2
  rcases hb with rfl | rfl
  · exact do_13 (Or.inr ⟨by decide, Rl_CI hR, Rl_GI hR, Or.inl rfl, fun _ => ⟨rfl, hR⟩, fun z => absurd (e1.mp z) hv⟩)
  · exact do_13 (Or.inl ⟨rfl, Rl_CI hR, Rl_GI hR, Or.inr rfl, fun _ => ⟨rfl, hR⟩, fun z => absurd (e1.mp z) hv⟩)
theorem caus_2 {v a x : Nat} {b : Int32} (hR : Rl t s) (hb : b = 0 ∨ b = 1) (hv : v < s.1 1) (ha : a < 100) (hx : x < 1000) (hc : ¬ (a < 8 ∧ 0 < x ∧ x < 128)) : sp_L_does [aR 1 0, aI 13, aI (nI v), aI (nI a), aI (nI x), aI b] s (Dn (-2000000) t) X := by
  have := Rl_n hR
  have e1 := iCs hR (k := 1) (by decide) (j := v) (by omega)
  have e2 : ((0 ≤ nI a ∧ nI a < 8) ∧ (1 ≤ nI x ∧ nI x ≤ 127)) → False := fun z => hc ⟨(rgN (b := 8) (by omega) (by decide)).mp z.1, (nI_leI (a := 1) (by decide) (by omega)).mp z.2.1, Nat.lt_succ_of_le ((nI_leI (b := 127) (by omega) (by decide)).mp z.2.2)⟩
  rcases hb with rfl | rfl
  · exact do_13 (Or.inr ⟨by decide, Rl_CI hR, Rl_GI hR, Or.inl rfl, fun z => absurd (e1.mpr hv) z, fun _ => ⟨fun _ => ⟨rfl, hR⟩, fun z => (e2 z).elim⟩⟩)
  · exact do_13 (Or.inl ⟨rfl, Rl_CI hR, Rl_GI hR, Or.inr rfl, fun z => absurd (e1.mpr hv) z, fun _ => ⟨fun _ => ⟨rfl, hR⟩, fun z => (e2 z).elim⟩⟩)
theorem caus_3 {v a x : Nat} {b : Int32} (hR : Rl t s) (hb : b = 0 ∨ b = 1) (hv : v < s.1 1) (ha : a < 8) (hx : 0 < x ∧ x < 128) (hc : ¬ ((¬ b = 0 ∨ icourt s v (nI a)) ∧ mbj s (nI v))) : sp_L_does [aR 1 0, aI 13, aI (nI v), aI (nI a), aI (nI x), aI b] s (Dn (-1000000) t) X := by
  have := Rl_n hR
  have e1 := iCs hR (k := 1) (by decide) (j := v) (by omega)
  have e2 : ((0 ≤ nI a ∧ nI a < 8) ∧ (1 ≤ nI x ∧ nI x ≤ 127)) := ⟨(rgN (b := 8) (by omega) (by decide)).mpr ha, (nI_leI (a := 1) (by decide) (by omega)).mpr hx.1, (nI_leI (b := 127) (by omega) (by decide)).mpr (by omega)⟩
  have cv : cl (nI v) = v := clN (by omega)
  rcases hb with rfl | rfl
  · refine do_13 (Or.inr ⟨by decide, Rl_CI hR, Rl_GI hR, Or.inl rfl, fun z => absurd (e1.mpr hv) z, fun _ => ⟨fun z => absurd e2 z, fun _ => ?_⟩⟩)
    rw [cv]
    exact ⟨fun _ => ⟨rfl, hR⟩, fun z1 => ⟨fun _ => ⟨rfl, hR⟩, fun z2 => absurd ⟨z1, z2.1⟩ hc⟩⟩
  · refine do_13 (Or.inl ⟨rfl, Rl_CI hR, Rl_GI hR, Or.inr rfl, fun z => absurd (e1.mpr hv) z, fun _ => ⟨fun z => absurd e2 z, fun _ => ?_⟩⟩)
    rw [cv]
    exact ⟨fun _ => ⟨rfl, hR⟩, fun z1 => ⟨fun _ => ⟨rfl, hR⟩, fun z2 => absurd ⟨z1, z2.1⟩ hc⟩⟩
/-- the law's rows with one cause more -/
def lwC (s : Sg) (n v x : Nat) : Sg := stS (stS s 26 0 n (nI (pkC v x 0 1))) 30 0 3 (nI (n + 1))
theorem caus_0 {v a x : Nat} {b : Int32} (h : Rg t fa mo T (rows s) s) (hn8 : s.1 2 < 8) (hb : b = 0 ∨ b = 1) (hv : v < s.1 1) (ha : a < 8) (hx : 0 < x ∧ x < 128) (hc : (¬ b = 0 ∨ icourt s v (nI a)) ∧ mbj s (nI v)) :
    sp_L_does [aR 1 0, aI 13, aI (nI v), aI (nI a), aI (nI x), aI b] (lwC s (s.1 2) v x) (Dnr (nI (s.1 2)) (t + 1) 30 3 (nI (s.1 2 + 1))) X := by
  have hn := Rg_n h
  obtain ⟨w1, hw1⟩ : ∃ w, w = lwC s (s.1 2) v x := ⟨_, rfl⟩
  have wo : ∀ a b c, a < 20 → w1.2.1 a b c = s.2.1 a b c := fun a b c ha => by rw [hw1]; unfold lwC; rw [stS_get, if_neg (by omega), stS_get, if_neg (by omega)]
  have wn : w1.1 = s.1 := by rw [hw1]; rfl
  have hCw : CI w1 := CI_fr wn (fun _ => wo _ _ _ (by decide)) (fun _ => wo _ _ _ (by decide)) (fun _ => wo _ _ _ (by decide)) (Rg_CI h)
  have hGw : GI w1 := by
    have := Rg_GI h
    unfold GI at this ⊢
    rw [wn]
    exact this
  have wiC : ∀ j, iC w1 1 j = iC s 1 j := fun j => by unfold iC; rw [wn]
  have i1 : iC s 1 (nI v) := (iC_N (by omega) (by omega)).mpr hv
  have cv : cl (nI v) = v := clN (by omega)
  have ei : icourt w1 v (nI a) = icourt s v (nI a) := by unfold icourt laC; rw [wo _ _ _ (by decide), wo _ _ _ (by decide), wo _ _ _ (by decide), wo _ _ _ (by decide), wo _ _ _ (by decide), wo _ _ _ (by decide), wo _ _ _ (by decide)]
  have em : mbj w1 (nI v) = mbj s (nI v) := by
    unfold mbj inct
    simp only [wn, wo 13 _ _ (by decide), wo 14 _ _ (by decide)]
  have l30 : nI (s.1 2) < 30 := nI_lt (b := 30) (by omega) (by decide)
  have e2 : ((0 ≤ nI a ∧ nI a < 8) ∧ (1 ≤ nI x ∧ nI x ≤ 127)) := ⟨(rgN (b := 8) (by omega) (by decide)).mpr ha, (nI_leI (a := 1) (by decide) (by omega)).mpr hx.1, (nI_leI (b := 127) (by omega) (by decide)).mpr (by omega)⟩
  rw [← hw1]
  have fin : (some (aI (nI ((cauS w1 (nI v) (nI x)).1 2) - 1)) : Option AV) = some (aI (nI (s.1 2))) ∧ Rl (t + 1) (cauS w1 (nI v) (nI x)) ∧ (cauS w1 (nI v) (nI x)).2.1 30 0 3 = nI (s.1 2 + 1) := by
    have n0w : w1.1 2 = s.1 2 := by rw [wn]
    obtain ⟨y, hy⟩ : ∃ y, y = cauS w1 (nI v) (nI x) := ⟨_, rfl⟩
    obtain ⟨n2, no, nz, hGy, hg2⟩ := add_cnt (z := stS (newC w1 (nI v) (nI x)) 2 2 0 ((newC w1 (nI v) (nI x)).2.1 2 2 0 + 1)) (s := w1) (a := 2) (by decide) (fun c hc => newC_1 hc) hGw (CI_2 hCw) (by omega)
    rw [show addS (stS (newC w1 (nI v) (nI x)) 2 2 0 ((newC w1 (nI v) (nI x)).2.1 2 2 0 + 1)) 2 = y from hy.symm] at n2 no nz hGy hg2
    have n0 := no 0 (by decide) (by decide)
    have n1 := no 1 (by decide) (by decide)
    rw [wn] at n0 n1 n2 nz
    have yw : ∀ t i j, ¬ t = 2 → ¬ (i = s.1 2 ∧ 14 ≤ t ∧ t ≤ 17) → y.2.1 t i j = w1.2.1 t i j := fun t i j k1 k2 => by
      rw [hy, cau_2, if_neg (fun w => k1 w.1), newC_2 (by rw [n0w]; exact k2)]
    have y14 : ∀ c, y.2.1 14 (s.1 2) c = if c = 0 then nI v else if c = 1 then nI x else if c = 3 then 1 else 0 := fun c => by rw [hy, cau_2, if_neg (fun w => absurd w.1 (by decide)), ← n0w, newC_14]
    have y15 : ∀ c, y.2.1 15 (s.1 2) c = 0 := fun c => by rw [hy, cau_2, if_neg (fun w => absurd w.1 (by decide)), ← n0w, newC_15]
    have y16 : ∀ c, c < 3 → y.2.1 16 (s.1 2) c = -1 := fun c hc => by
      rw [hy, cau_2, if_neg (fun w => absurd w.1 (by decide)), ← n0w, newC_16]
      exact if_pos hc
    have y17 : ∀ c, c < 3 → y.2.1 17 (s.1 2) c = -1 := fun c hc => by
      rw [hy, cau_2, if_neg (fun w => absurd w.1 (by decide)), ← n0w, newC_17]
      exact if_pos hc
    have yc : ∀ a b c, a < 20 → ¬ a = 2 → ¬ (b = s.1 2 ∧ 14 ≤ a ∧ a ≤ 17) → y.2.1 a b c = s.2.1 a b c := fun a b c h1 h2 h3 => (yw a b c h2 h3).trans (wo a b c h1)
    have yl : ∀ a c, 20 ≤ a → ¬ (a = 26 ∧ c = s.1 2) → ¬ (a = 30 ∧ c = 3) → y.2.1 a 0 c = s.2.1 a 0 c := fun a c h0 h1 h3 => by
      rw [yw a 0 c (by omega) (by omega), hw1]; unfold lwC
      rw [stS_get, if_neg (by omega), stS_get, if_neg (by omega)]
    have y26 : y.2.1 26 0 (s.1 2) = nI (pkC v x 0 1) := by
      rw [yw _ _ _ (by decide) (by omega), hw1]; unfold lwC
      rw [stS_get, if_neg (by omega), stS_get, if_pos ⟨rfl, rfl, rfl⟩]
    have y30 : y.2.1 30 0 3 = nI (s.1 2 + 1) := by
      rw [yw _ _ _ (by decide) (by omega), hw1]; unfold lwC
      rw [stS_get, if_pos ⟨rfl, rfl, rfl⟩]
    rw [← hy]
    refine ⟨by rw [n2, nI_pred], ⟨fa, mo, T, ?_⟩, y30⟩
    obtain ⟨⟨a1, a2, a3, a4, a5, a6⟩, hPe, h2, h3, h4, h5, h6⟩ := Rg_mono (t2 := t + 1) (Nat.le_succ t) h
    have hgy := of_eq_true hGy
    have hC9 := of_eq_true a1
    refine ⟨⟨CI_mk9 (Gd_o n0.1 n0.2 (CI_0 a1)) (Gd_o n1.1 n1.2 (CI_1 a1)) hg2 (by rw [n0.1]; omega) (fun w hw => ?_) (fun c hc => ?_), hGy, ⟨nz.1.trans a3.1, nz.2.1.trans a3.2.1, nz.2.2.trans a3.2.2⟩, ⟨by rw [n0.1]; exact a4.1, by rw [n1.1]; exact a4.2.1, by rw [n2]; omega⟩, ⟨?_, ?_, ?_⟩, ?_⟩, ?_, ?_, ⟨fun k hk => ?_, fun k hk hk2 => ?_⟩, ?_, ?_, ?_⟩
    · rw [show y.1 7 = 0 from hgy.1.2.1, n1.1] at hw
      obtain ⟨j1, j2⟩ := hC9.2.2.2.2.1 w (show w < s.1 1 + s.1 7 by omega)
      rw [yc 13 w 0 (by decide) (by decide) (by omega), yc 13 w 1 (by decide) (by decide) (by omega)]
      exact ⟨iC_up (by rw [n0.1]; exact Nat.le_refl _) (by rw [n0.1]; omega) j1, iC_up (by rw [n0.1]; exact Nat.le_refl _) (by rw [n0.1]; omega) j2⟩
    · rw [show y.1 8 = 0 from hgy.1.2.2, n2] at hc
      by_cases hc2 : c = s.1 2
      · rw [hc2, y14, if_pos rfl]
        exact iC_up (by rw [n1.1]; exact Nat.le_refl _) (by rw [n1.1]; omega) i1
      · have i1 := hC9.2.2.2.2.2 c (show c < s.1 2 + s.1 8 by omega)
        rw [yc 14 c 0 (by decide) (by decide) (by omega)]
        exact iC_up (by rw [n1.1]; exact Nat.le_refl _) (by rw [n1.1]; omega) i1
    · rw [n0.1]; exact (yl 30 1 (by decide) (by omega) (by omega)).trans a5.1
    · rw [n1.1]; exact (yl 30 2 (by decide) (by omega) (by omega)).trans a5.2.1
    · rw [n2]; exact y30
    · obtain ⟨dd, d1, d2, d3⟩ := a6
      exact ⟨dd, d1, (yc 1 0 7 (by decide) (by decide) (by omega)).trans d2, (yl 30 0 (by decide) (by omega) (by omega)).trans d3⟩
    · exact RPe_fr (r := rows s) (s := s) n0.1 (fun _ _ => yc _ _ _ (by decide) (by decide) (by omega)) (fun _ _ => yl _ _ (by decide) (by omega) (by omega)) (fun _ _ => yl _ _ (by decide) (by omega) (by omega)) a4.1 hPe
    · exact RV_fr (r := rows s) (s := s) n0.1 n1.1 (fun _ _ => yc _ _ _ (by decide) (by decide) (by omega)) (fun _ => yc _ _ _ (by decide) (by decide) (by omega)) (fun _ _ => yl _ _ (by decide) (by omega) (by omega)) (fun _ => yl _ _ (by decide) (by omega) (by omega)) a4.2.1 h2
    · rw [n2] at hk
      by_cases hk2 : k = s.1 2
      · subst hk2
        obtain ⟨z1, z2, z3⟩ := h3.2 (s.1 2) (Nat.le_refl _) hn8
        refine ⟨v, x, 0, 1, 0, 0, 0, 0, 0, 0, ⟨by rw [n1.1]; exact hv, hx.1, hx.2, by decide, by decide, by decide⟩, by decide, ⟨?_, ?_, ?_, ?_⟩, y26, ⟨?_, ?_, ?_⟩, ?_, ⟨?_, ?_, ?_⟩, ?_, fun j hj => ?_, fun _ => Or.inl ⟨rfl, rfl, rfl, rfl⟩, fun z => absurd z (by decide)⟩
        · rw [y14, if_pos rfl]
        · rw [y14, if_neg (by decide), if_pos rfl]
        · rw [y14, if_neg (by decide), if_neg (by decide), if_neg (by decide)]; rfl
        · rw [y14, if_neg (by decide), if_neg (by decide), if_pos rfl]; rfl
        · rw [y16 _ (by decide)]; rfl
        · rw [y16 _ (by decide)]; rfl
        · rw [y16 _ (by decide)]; rfl
        · exact (yl 28 (s.1 2) (by decide) (by omega) (by omega)).trans z1
        · rw [y17 _ (by decide)]; rfl
        · rw [y17 _ (by decide)]; rfl
        · rw [y17 _ (by decide)]; rfl
        · exact (yl 29 (s.1 2) (by decide) (by omega) (by omega)).trans z2
        · rw [y15, show (0 : Int32).toInt = 0 from rfl]
          exact ⟨(yl 27 (7 * s.1 2 + j) (by decide) (by omega) (by omega)).trans (z3 j hj), by omega, by omega⟩
      · obtain ⟨vw, db, st, ins, a', b', d', x', y', z', q1, q2, q3, q4, q5, q6, q7, q8, q9, q10⟩ := h3.1 k (by omega)
        refine ⟨vw, db, st, ins, a', b', d', x', y', z', ⟨by rw [n1.1]; exact q1.1, q1.2⟩, q2, by rw [yc 14 _ _ (by decide) (by decide) (by omega), yc 14 _ _ (by decide) (by decide) (by omega), yc 14 _ _ (by decide) (by decide) (by omega), yc 14 _ _ (by decide) (by decide) (by omega)]; exact q3, (yl 26 k (by decide) (by omega) (by omega)).trans q4, by rw [yc 16 _ _ (by decide) (by decide) (by omega), yc 16 _ _ (by decide) (by decide) (by omega), yc 16 _ _ (by decide) (by decide) (by omega)]; exact q5, (yl 28 k (by decide) (by omega) (by omega)).trans q6,
          by rw [yc 17 _ _ (by decide) (by decide) (by omega), yc 17 _ _ (by decide) (by decide) (by omega), yc 17 _ _ (by decide) (by decide) (by omega)]; exact q7, (yl 29 k (by decide) (by omega) (by omega)).trans q8, fun j hj => ?_, q10⟩
        rw [yc 15 _ _ (by decide) (by decide) (by omega)]
        exact ⟨(yl 27 (7 * k + j) (by decide) (by omega) (by omega)).trans (q9 j hj).1, (q9 j hj).2⟩
    · rw [n2] at hk
      obtain ⟨z1, z2, z3⟩ := h3.2 k (by omega) hk2
      exact ⟨(yl 28 k (by decide) (by omega) (by omega)).trans z1, (yl 29 k (by decide) (by omega) (by omega)).trans z2, fun j hj => (yl 27 (7 * k + j) (by decide) (by omega) (by omega)).trans (z3 j hj)⟩
    · exact RF9_fr (r := rows s) (s := s) (fun _ _ => yc _ _ _ (by decide) (by decide) (by omega)) (fun _ => yc _ _ _ (by decide) (by decide) (by omega)) (fun _ => yl _ _ (by decide) (by omega) (by omega)) h4
    · exact RD_fr (r := rows s) (s := s) (fun _ _ => yc _ _ _ (by decide) (by decide) (by omega)) (fun _ => yl _ _ (by decide) (by omega) (by omega)) h5
    · have e6 : ∀ k c, y.2.1 6 k c = s.2.1 6 k c := fun k c => yc _ _ _ (by decide) (by decide) (by omega)
      unfold RS at h6 ⊢
      simp only [n0.1, e6]
      exact h6
  have hc1 : ¬ b = 0 ∨ icourt w1 v (nI a) := by rw [ei]; exact hc.1
  have hc2 : mbj w1 (nI v) ∧ nI (w1.1 2) < 30 := ⟨by rw [em]; exact hc.2, by rw [wn]; exact l30⟩
  rcases hb with rfl | rfl
  · refine do_13 (Or.inr ⟨by decide, hCw, hGw, Or.inl rfl, fun z => absurd (by rw [wiC]; exact i1) z, fun _ => ⟨fun z => absurd e2 z, fun _ => ?_⟩⟩)
    rw [cv]
    exact ⟨fun z => absurd hc1 z, fun _ => ⟨fun z => absurd hc2 z, fun _ => fin⟩⟩
  · refine do_13 (Or.inl ⟨rfl, hCw, hGw, Or.inr rfl, fun z => absurd (by rw [wiC]; exact i1) z, fun _ => ⟨fun z => absurd e2 z, fun _ => ?_⟩⟩)
    rw [cv]
    exact ⟨fun z => absurd hc1 z, fun _ => ⟨fun z => absurd hc2 z, fun _ => fin⟩⟩
end Do9

