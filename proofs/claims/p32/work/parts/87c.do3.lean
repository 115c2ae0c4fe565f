/-! the calls: faculties, errors, days, vows that are healed, dissolved, found null -/
theorem Sg_same {s : Sg} {a b c : Nat} {v : Int32} (h : v = s.2.1 a b c) : stS s a b c v = s := by
  refine Sg_ext rfl (fun x y z => ?_) rfl
  rw [stS_get]
  split
  · rename_i q
    rw [q.1, q.2.1, q.2.2, h]
  · rfl
theorem xor_b : ∀ E, E < 256 → ∀ p, p < 8 → (E ^^^ 2 ^ p) < 256 ∧ ∀ j, j < 8 → (E ^^^ 2 ^ p) / 2 ^ j % 2 = if j = p then 1 - E / 2 ^ p % 2 else E / 2 ^ j % 2 := by decide +kernel
section Do3
variable {t : Nat} {fa mo : Nat → Nat} {T : Nat → Nat → Nat} {s s' : Sg} {X : Xt} {k : Nat}
/-- faculties and errors are others -/
theorem Rg_f (h : Rg t fa mo T (rows s) s) (hn : s'.1 = s.1) (eo : ∀ a b c, ¬ a = 10 → ¬ a = 11 → ¬ a = 22 → s'.2.1 a b c = s.2.1 a b c) (hF : RF9 (rows s') s') : Rg (t + 1) fa mo T (rows s') s' := by
  obtain ⟨h0, hP, h2, h3, h4, h5, h6⟩ := Rg_mono (t2 := t + 1) (Nat.le_succ t) h
  have hn16 := h0.2.2.2.1
  have o : ∀ a b c, a < 10 ∨ (11 < a ∧ ¬ a = 22) → s'.2.1 a b c = s.2.1 a b c := fun a b c ha => eo a b c (by omega) (by omega) (by omega)
  exact ⟨R0_fr (r := rows s) (s := s) hn (fun _ => o _ _ _ (by decide)) (fun _ => o _ _ _ (by decide)) (fun _ => o _ _ _ (by decide)) (o _ _ _ (by decide)) (fun _ => o _ _ _ (by decide)) h0, RPe_fr (r := rows s) (s := s) (by rw [hn]) (fun _ _ => o _ _ _ (by decide)) (fun _ _ => o _ _ _ (by decide)) (fun _ _ => o _ _ _ (by decide)) hn16.1 hP,
    RV_fr (r := rows s) (s := s) (by rw [hn]) (by rw [hn]) (fun _ _ => o _ _ _ (by decide)) (fun _ => o _ _ _ (by decide)) (fun _ _ => o _ _ _ (by decide)) (fun _ => o _ _ _ (by decide)) hn16.2.1 h2,
    RC_fr (r := rows s) (s := s) (by rw [hn]) (by rw [hn]) (fun _ _ => o _ _ _ (by decide)) (fun _ _ => o _ _ _ (by decide)) (fun _ _ => o _ _ _ (by decide)) (fun _ _ => o _ _ _ (by decide)) (fun _ _ => o _ _ _ (by decide)) (fun _ _ => o _ _ _ (by decide)) (fun _ _ => o _ _ _ (by decide)) (fun _ _ => o _ _ _ (by decide)) hn16.2.2 h3,
    hF, RD_fr (r := rows s) (s := s) (fun _ _ => o _ _ _ (by decide)) (fun _ => o _ _ _ (by decide)) h5, RS_fr (s := s) (by rw [hn]) (fun _ _ => o _ _ _ (by decide)) h6⟩
theorem fac_2 {w pl d : Nat} (hR : Rl t s) (hw : w < 100) (hpl : pl < 100) (hd : d < 100000) (hc : ¬ (w < 6 ∧ pl < 8 ∧ d < 10001)) : sp_L_does [aR 1 0, aI 7, aI (nI w), aI (nI pl), aI (nI d), aI 0] s (Dn (-2000000) t) X := by
  refine do_7 ⟨fun _ => ⟨rfl, hR⟩, fun z => absurd ?_ hc⟩
  exact ⟨(rgN (b := 6) (by omega) (by decide)).mp z.1, (rgN (b := 8) (by omega) (by decide)).mp z.2.1, by have := (rgL (b := 10000) (by omega) (by decide)).mp z.2.2; omega⟩
theorem fac_0 {w pl d dy : Nat} (h : Rg t fa mo T (rows s) s) (hw : w < 2) (hpl : pl < 8) (hd : d < 10001) (hdy : s.2.1 30 0 0 = nI dy) (hdy2 : s.2.1 1 0 7 = nI dy) :
    sp_L_does [aR 1 0, aI 7, aI (nI w), aI (nI pl), aI (nI d), aI 0] (stS s 22 0 (8 * w + pl) (nI dy + nI d)) (Dn 0 (t + 1)) X := by
  have cw : cl (nI w) = w := clN (by omega)
  have cp : cl (nI pl) = pl := clN (by omega)
  refine do_7 ⟨fun z => absurd ?_ z, fun _ => ?_⟩
  · exact ⟨(rgN (b := 6) (by omega) (by decide)).mpr (by omega), (rgN (b := 8) (by omega) (by decide)).mpr hpl, (rgL (b := 10000) (by omega) (by decide)).mpr (by omega)⟩
  · rw [cw, cp]
    refine ⟨rfl, Rl_of (Rg_f h rfl (fun a b c h1 h2 h3 => ?_) ?_)⟩
    · rw [stS_get, if_neg (fun z => h1 z.1), stS_get, if_neg (fun z => h3 z.1)]
    · obtain ⟨f1, E, hE, e16, f2⟩ := h.2.2.2.2.1
      have ed : (stS s 22 0 (8 * w + pl) (nI dy + nI d)).2.1 1 0 7 = nI dy := hdy2
      rw [ed]
      refine ⟨fun w2 p2 hw2 hp2 => ?_, E, hE, ?_, fun p2 hp2 => ?_⟩
      · show (stS s 22 0 (8 * w + pl) (nI dy + nI d)).2.1 22 0 (8 * w2 + p2) = _
        rw [stS_get, stS_get]
        by_cases e : w2 = w ∧ p2 = pl
        · obtain ⟨rfl, rfl⟩ := e
          rw [if_pos ⟨rfl, rfl, rfl⟩, if_pos ⟨rfl, rfl, rfl⟩]
        · rw [if_neg (by omega), if_neg (by omega)]
          exact f1 w2 p2 hw2 hp2
      · show (stS s 22 0 (8 * w + pl) (nI dy + nI d)).2.1 22 0 16 = _
        rw [stS_get, if_neg (by omega)]
        exact e16
      · rw [stS_get, if_neg (by omega)]
        exact f2 p2 hp2
theorem err_2 {pl : Nat} (hR : Rl t s) (hpl : pl < 100) (hc : ¬ pl < 8) : sp_L_does [aR 1 0, aI 8, aI (nI pl), aI 0, aI 0, aI 0] s (Dn (-2000000) t) X :=
  do_8 ⟨fun _ => ⟨rfl, hR⟩, fun z => absurd ((rgN (b := 8) (by omega) (by decide)).mp z) hc⟩
theorem err_0 {pl E : Nat} (h : Rg t fa mo T (rows s) s) (hpl : pl < 8) (hE : E < 256) (e16 : s.2.1 22 0 16 = nI E) : sp_L_does [aR 1 0, aI 8, aI (nI pl), aI 0, aI 0, aI 0] (stS s 22 0 16 (nI (E ^^^ 2 ^ pl))) (Dnr (nI ((E ^^^ 2 ^ pl) / 2 ^ pl % 2)) (t + 1) 22 16 (nI (E ^^^ 2 ^ pl))) X := by
  have cp : cl (nI pl) = pl := clN (by omega)
  obtain ⟨f1, E2, hE2, e162, f2⟩ := h.2.2.2.2.1
  have e162' : s.2.1 22 0 16 = nI E2 := e162
  have ee : E2 = E := (nI_eq (by omega) (by omega)).mp (e162'.symm.trans e16)
  subst ee
  obtain ⟨x1, x2⟩ := xor_b E2 hE pl hpl
  have bb : E2 / 2 ^ pl % 2 = 0 ∨ E2 / 2 ^ pl % 2 = 1 := by omega
  have e11 := f2 pl hpl
  have er : erC (stS s 22 0 16 (nI (E2 ^^^ 2 ^ pl))) (nI pl) = nI ((E2 ^^^ 2 ^ pl) / 2 ^ pl % 2) := by
    unfold erC
    rw [cp, x2 pl hpl, if_pos rfl]
    have e : (stS s 22 0 16 (nI (E2 ^^^ 2 ^ pl))).2.1 11 0 pl = nI (E2 / 2 ^ pl % 2) := e11
    rw [e]
    rcases bb with b | b
    · rw [b, iteP_t (show nI 0 = 0 from rfl)]; rfl
    · rw [b, iteP_f (show ¬ nI 1 = 0 by decide)]; rfl
  refine do_8 ⟨fun z => absurd ((rgN (b := 8) (by omega) (by decide)).mpr hpl) z, fun _ => ?_⟩
  rw [er, cp]
  have hR : Rl (t + 1) (stS (stS s 22 0 16 (nI (E2 ^^^ 2 ^ pl))) 11 0 pl (nI ((E2 ^^^ 2 ^ pl) / 2 ^ pl % 2))) := by
    refine Rl_of (Rg_f h rfl (fun a b c h1 h2 h3 => ?_) ⟨fun w2 p2 hw2 hp2 => ?_, E2 ^^^ 2 ^ pl, x1, ?_, fun p2 hp2 => ?_⟩)
    · rw [stS_get, if_neg (fun z => h2 z.1), stS_get, if_neg (fun z => h3 z.1)]
    · show (stS s 22 0 16 (nI (E2 ^^^ 2 ^ pl))).2.1 22 0 (8 * w2 + p2) = _
      rw [stS_get, if_neg (by omega)]
      exact f1 w2 p2 hw2 hp2
    · simp [stS_get]
    · rw [stS_get, x2 p2 hp2]
      by_cases e : p2 = pl
      · subst e
        rw [if_pos ⟨rfl, rfl, rfl⟩, if_pos rfl, x2 p2 hp2, if_pos rfl]
      · rw [if_neg (fun z => e z.2.2), if_neg e]
        exact f2 p2 hp2
  have he : (stS (stS s 22 0 16 (nI (E2 ^^^ 2 ^ pl))) 11 0 pl (nI ((E2 ^^^ 2 ^ pl) / 2 ^ pl % 2))).2.1 22 0 16 = nI (E2 ^^^ 2 ^ pl) := by
    rw [stS_get, if_neg (by omega), stS_get, if_pos ⟨rfl, rfl, rfl⟩]
  have m : (E2 ^^^ 2 ^ pl) / 2 ^ pl % 2 = 0 ∨ (E2 ^^^ 2 ^ pl) / 2 ^ pl % 2 = 1 := by omega
  refine ⟨fun z => ?_, fun z => ?_⟩
  · rcases m with m | m
    · rw [m] at z; exact absurd rfl z
    · exact ⟨by rw [m]; rfl, hR, he⟩
  · rcases m with m | m
    · exact ⟨by rw [m]; rfl, hR, he⟩
    · rw [m] at z; exact absurd z (by decide)
theorem pass_2 {d : Nat} (hR : Rl t s) (hd : d < 100000) (hc : ¬ (1 ≤ d ∧ d ≤ 10000)) : sp_L_does [aR 1 0, aI 20, aI (nI d), aI 0, aI 0, aI 0] s (Dn (-2000000) t) X :=
  do_20 ⟨fun _ => ⟨rfl, hR⟩, fun z => absurd ⟨(nI_leI (a := 1) (by decide) (by omega)).mp z.1, (nI_leI (b := 10000) (by omega) (by decide)).mp z.2⟩ hc⟩
theorem pass_0 {d dy : Nat} (h : Rg t fa mo T (rows s) s) (hd : 1 ≤ d ∧ d ≤ 10000) (hdy : s.2.1 1 0 7 = nI dy) (hdy2 : dy ≤ 10000 * t) : sp_L_does [aR 1 0, aI 20, aI (nI d), aI 0, aI 0, aI 0] (stS s 30 0 0 (nI dy + nI d)) (Dnr (nI dy + nI d) (t + 1) 30 0 (nI dy + nI d)) X := by
  refine do_20 ⟨fun z => absurd ⟨(nI_leI (a := 1) (by decide) (by omega)).mpr hd.1, (nI_leI (b := 10000) (by omega) (by decide)).mpr hd.2⟩ z, fun _ => ?_⟩
  have ed : (stS s 30 0 0 (nI dy + nI d)).2.1 1 0 7 = nI dy := hdy
  rw [ed]
  refine ⟨rfl, ⟨fa, mo, T, ?_⟩, by rw [stS_get, if_neg (by omega), stS_get, if_pos ⟨rfl, rfl, rfl⟩]⟩
  obtain ⟨⟨c1, c2, c3, c4, c5, -⟩, hP, h2, h3, h4, h5, h6⟩ := Rg_mono (t2 := t + 1) (Nat.le_succ t) h
  obtain ⟨y, hy⟩ : ∃ y, y = stS (stS s 30 0 0 (nI dy + nI d)) 1 0 7 (nI dy + nI d) := ⟨_, rfl⟩
  have yo : ∀ a b c, ¬ a = 1 → ¬ (a = 30 ∧ c = 0) → y.2.1 a b c = s.2.1 a b c := fun a b c q1 q2 => by rw [hy, stS_get, if_neg (fun z => q1 z.1), stS_get, if_neg (fun z => q2 ⟨z.1, z.2.2⟩)]
  have y1 : y.1 = s.1 := by rw [hy]; rfl
  rw [← hy]
  refine ⟨⟨CI_fr y1 (fun _ => yo _ _ _ (by decide) (by omega)) (fun _ => yo _ _ _ (by decide) (by omega)) (fun _ => yo _ _ _ (by decide) (by omega)) c1, by unfold GI at c2 ⊢; rw [y1]; exact c2, by rw [y1]; exact c3, by rw [y1]; exact c4, ?_, dy + d, by omega, ?_, ?_⟩,
    RPe_fr (r := rows s) (s := s) (by rw [y1]) (fun _ _ => yo _ _ _ (by decide) (by omega)) (fun _ _ => yo _ _ _ (by decide) (by omega)) (fun _ _ => yo _ _ _ (by decide) (by omega)) c4.1 hP,
    RV_fr (r := rows s) (s := s) (by rw [y1]) (by rw [y1]) (fun _ _ => yo _ _ _ (by decide) (by omega)) (fun _ => yo _ _ _ (by decide) (by omega)) (fun _ _ => yo _ _ _ (by decide) (by omega)) (fun _ => yo _ _ _ (by decide) (by omega)) c4.2.1 h2,
    RC_fr (r := rows s) (s := s) (by rw [y1]) (by rw [y1]) (fun _ _ => yo _ _ _ (by decide) (by omega)) (fun _ _ => yo _ _ _ (by decide) (by omega)) (fun _ _ => yo _ _ _ (by decide) (by omega)) (fun _ _ => yo _ _ _ (by decide) (by omega)) (fun _ _ => yo _ _ _ (by decide) (by omega)) (fun _ _ => yo _ _ _ (by decide) (by omega)) (fun _ _ => yo _ _ _ (by decide) (by omega)) (fun _ _ => yo _ _ _ (by decide) (by omega)) c4.2.2 h3,
    RF9_fr (r := rows s) (s := s) (fun _ _ => yo _ _ _ (by decide) (by omega)) (fun _ => yo _ _ _ (by decide) (by omega)) (fun _ => yo _ _ _ (by decide) (by omega)) h4, RD_fr (r := rows s) (s := s) (fun _ _ => yo _ _ _ (by decide) (by omega)) (fun _ => yo _ _ _ (by decide) (by omega)) h5, RS_fr (s := s) (by rw [y1]) (fun _ _ => yo _ _ _ (by decide) (by omega)) h6⟩
  · show y.2.1 30 0 1 = _ ∧ y.2.1 30 0 2 = _ ∧ y.2.1 30 0 3 = _
    rw [y1, yo 30 0 1 (by decide) (by omega), yo 30 0 2 (by decide) (by omega), yo 30 0 3 (by decide) (by omega)]
    exact c5
  · rw [hy, ← nI_add]; simp [stS_get]
  · show y.2.1 30 0 0 = _
    rw [hy, ← nI_add]; simp [stS_get]
/-- what hinders a vow is small -/
theorem hnC_N {la : Nat} (h : s.2.1 13 k 4 = nI la) (hl : la < 16) : ∃ q, q < 32 ∧ hnC s k = nI q := by
  unfold hnC
  rw [h]
  by_cases c : hnb s k
  · rw [iteP_t c]; exact ⟨la + 4, by omega, nI_add la 4⟩
  · rw [iteP_f c]; exact ⟨la, by omega, nI_add la 0⟩
theorem heal_1 (hR : Rl t s) (hk : ¬ k < s.1 1) (hk2 : k < 100) : sp_L_does [aR 1 0, aI 10, aI (nI k), aI 0, aI 0, aI 0] s (Dn (-3000000) t) X :=
  do_10 ⟨Rl_CI hR, fun _ => ⟨rfl, hR⟩, fun z => absurd ((iCs hR (by decide) hk2).mp z) hk⟩
theorem heal_3 (hR : Rl t s) (hk : k < s.1 1) (hc : ¬ (s.2.1 13 k 6 = 0 ∧ ¬ s.2.1 13 k 5 = 0 ∧ hnC s k = 0)) : sp_L_does [aR 1 0, aI 10, aI (nI k), aI 0, aI 0, aI 0] s (Dn (-1000000) t) X := by
  have := Rl_n hR
  refine do_10 ⟨Rl_CI hR, fun z => absurd ((iCs hR (by decide) (by omega)).mpr hk) z, fun _ => ?_⟩
  rw [clN (by omega)]
  exact ⟨fun _ => ⟨rfl, hR⟩, fun z => absurd z hc⟩
theorem grace_1 (hR : Rl t s) (hk : ¬ k < s.1 1) (hk2 : k < 100) : sp_L_does [aR 1 0, aI 11, aI (nI k), aI 0, aI 0, aI 0] s (Dn (-3000000) t) X :=
  do_11 ⟨Rl_CI hR, fun _ => ⟨rfl, hR⟩, fun z => absurd ((iCs hR (by decide) hk2).mp z) hk⟩
theorem grace_3 (hR : Rl t s) (hk : k < s.1 1) (hc : ¬ (s.2.1 13 k 6 = 0 ∧ ¬ inct s (nI k))) : sp_L_does [aR 1 0, aI 11, aI (nI k), aI 0, aI 0, aI 0] s (Dn (-1000000) t) X := by
  have := Rl_n hR
  refine do_11 ⟨Rl_CI hR, fun z => absurd ((iCs hR (by decide) (by omega)).mpr hk) z, fun _ => ?_⟩
  rw [clN (by omega)]
  exact ⟨fun _ => ⟨rfl, hR⟩, fun z => absurd z hc⟩
theorem docu_1 (hR : Rl t s) (hk : ¬ k < s.1 1) (hk2 : k < 100) : sp_L_does [aR 1 0, aI 12, aI (nI k), aI 0, aI 0, aI 0] s (Dn (-3000000) t) X :=
  do_12 ⟨Rl_CI hR, fun _ => ⟨rfl, hR⟩, fun z => absurd ((iCs hR (by decide) hk2).mp z) hk⟩
theorem docu_3 (hR : Rl t s) (hk : k < s.1 1) (hc : ¬ (¬ dcC s k = 0 ∧ mbj s (nI k))) : sp_L_does [aR 1 0, aI 12, aI (nI k), aI 0, aI 0, aI 0] s (Dn (-1000000) t) X := by
  have := Rl_n hR
  refine do_12 ⟨Rl_CI hR, fun z => absurd ((iCs hR (by decide) (by omega)).mpr hk) z, fun _ => ?_⟩
  rw [clN (by omega)]
  exact ⟨fun _ => ⟨rfl, hR⟩, fun z => absurd z hc⟩
variable {one oth pl lk st la : Nat}
/-- predicates of the class don't see the law's rows -/
theorem lbC_fr (e : ∀ j c, s'.2.1 13 j c = s.2.1 13 j c) {p d : Int32} : ∀ m i, lbC s' p d m i = lbC s p d m i
  | 0, _ => rfl
  | m + 1, i => by
    have hb : boC s' i p d ↔ boC s i p d := by unfold boC; simp only [e]
    rw [lbC, lbC, lbC_fr e m (i + 1)]
    by_cases c : boC s i p d
    · rw [iteP_t c, iteP_t (hb.mpr c)]
    · rw [iteP_f c, iteP_f (fun z => c (hb.mp z))]
theorem hnC_fr (e : ∀ j c, s'.2.1 13 j c = s.2.1 13 j c) : hnC s' k = hnC s k := by
  have hb : hnb s' k ↔ hnb s k := by unfold hnb; simp only [e, lbC_fr e]
  unfold hnC
  rw [e]
  by_cases c : hnb s k
  · rw [iteP_t c, iteP_t (hb.mpr c)]
  · rw [iteP_f c, iteP_f (fun z => c (hb.mp z))]
theorem heal_0 (h : Rg t fa mo T (rows s) s) (hk : k < s.1 1) (hv : Vp s k one oth pl lk st la) (hlk : lk = 1) (hst : st = 0) (hh : hnC s k = 0) : sp_L_does [aR 1 0, aI 10, aI (nI k), aI 0, aI 0, aI 0] (stS s 24 0 k (nI (pkV one oth pl 0 st la))) (Dn 0 (t + 1)) X := by
  have hn := Rg_n h
  have ck : cl (nI k) = k := clN (by omega)
  obtain ⟨y, hy⟩ : ∃ y, y = stS s 24 0 k (nI (pkV one oth pl 0 st la)) := ⟨_, rfl⟩
  have y13 : ∀ j c, y.2.1 13 j c = s.2.1 13 j c := fun j c => by rw [hy]; rfl
  obtain ⟨q1, q2, q3, q4, q5, q6⟩ := hv
  rw [← hy]
  refine do_10 ⟨by rw [hy]; exact Rg_CI h, fun z => absurd ((iC_N (s := y) (k := 1) (by rw [hy]; show s.1 1 < 100; omega) (by omega)).mpr (by rw [hy]; exact hk)) z, fun _ => ?_⟩
  rw [ck]
  have hcan : y.2.1 13 k 6 = 0 ∧ ¬ y.2.1 13 k 5 = 0 ∧ hnC y k = 0 := by
    refine ⟨?_, ?_, ?_⟩
    · rw [y13, q2.2.2.2.2.1, hst]; rfl
    · rw [y13, q2.2.2.2.1, hlk]; decide
    · rw [hnC_fr y13]; exact hh
  refine ⟨fun z => absurd hcan z, fun _ => ⟨rfl, ?_⟩⟩
  · refine Rl_of (fa := fa) (mo := mo) (T := T) (Rg_vw h (by rw [hy]; rfl) (fun a => ?_) (fun a => ?_) (fun a b c h1 h2 h3 => ?_) (fun j hj => ?_))
    · rw [stS_get, if_neg (by omega), y13]
    · rw [stS_get, if_neg (by omega), y13]
    · rw [stS_get, if_neg (by omega), hy, stS_get, if_neg (by omega)]
    · have hj' : j < s.1 1 := by rw [hy] at hj; exact hj
      by_cases e : j = k
      · subst e
        refine ⟨one, oth, pl, 0, st, la, ⟨by rw [hy]; exact q1.1, by rw [hy]; exact q1.2.1, q1.2.2.1, by decide, q1.2.2.2.2⟩, ⟨?_, ?_, ?_, ?_, ?_, ?_⟩, ?_, ?_, ?_, ?_⟩
        · rw [stS_get, if_neg (by omega), y13]; exact q2.1
        · rw [stS_get, if_neg (by omega), y13]; exact q2.2.1
        · rw [stS_get, if_neg (by omega), y13]; exact q2.2.2.1
        · exact if_pos ⟨rfl, rfl, rfl⟩
        · rw [stS_get, if_neg (by omega), y13]; exact q2.2.2.2.2.1
        · rw [stS_get, if_neg (by omega), y13]; exact q2.2.2.2.2.2
        · rw [hy]; exact if_pos ⟨rfl, rfl, rfl⟩
        · rw [stS_get, if_neg (by omega), y13, hy]; exact q4
        · rw [stS_get, if_neg (by omega), y13, hy]; exact q5
        · rw [hy]; exact q6
      · have h9 := h.2.2.1 j hj'
        have g : ∀ c, (stS y 13 k 5 0).2.1 13 j c = s.2.1 13 j c := fun c => by rw [stS_get, if_neg (fun z => e z.2.1), y13]
        have g24 : rows (stS y 13 k 5 0) 24 j = rows s 24 j := by
          rw [hy]
          show (stS s 24 0 k (nI (pkV one oth pl 0 st la))).2.1 24 0 j = _
          rw [stS_get, if_neg (fun z => e z.2.2)]
        have g25 : ∀ i, rows (stS y 13 k 5 0) 25 i = rows s 25 i := fun i => by rw [hy]; rfl
        have g12 : ∀ i, (stS y 13 k 5 0).2.1 12 i 5 = s.2.1 12 i 5 := fun i => by rw [hy]; rfl
        have gn : (stS y 13 k 5 0).1 = s.1 := by rw [hy]; rfl
        unfold V1 at h9 ⊢
        simp only [g, g24, g25, g12, gn]
        exact h9
theorem grace_0 {d : Nat} (h : Rg t fa mo T (rows s) s) (hk : k < s.1 1) (hv : Vp s k one oth pl lk st la) (hst : st = 0) (hq : ¬ inct s (nI k)) (hd : s.2.1 30 0 0 = nI d) (hd2 : s.2.1 1 0 7 = nI d) : sp_L_does [aR 1 0, aI 11, aI (nI k), aI 0, aI 0, aI 0] (chV one oth pl lk st la 2 s k) (Dn 0 (t + 1)) X := by
  have hn := Rg_n h
  have ck : cl (nI k) = k := clN (by omega)
  refine do_11 ⟨Rg_CI h, fun z => absurd ((iC_N (s := s) (k := 1) (by omega) (by omega)).mpr hk) z, fun _ => ?_⟩
  rw [ck]
  have s6 : s.2.1 13 k 6 = 0 := by rw [hv.2.1.2.2.2.2.1, hst]; rfl
  have hcan : s.2.1 13 k 6 = 0 ∧ ¬ inct s (nI k) := ⟨s6, hq⟩
  refine ⟨fun z => absurd hcan z, fun _ => ⟨rfl, ?_⟩⟩
  have ed : (chV one oth pl lk st la 2 s k).2.1 1 0 7 = nI d := hd2
  rw [ed]
  exact Rl_of (Rg_turn h hk (by decide) hv hd)
theorem docu_0 {d q : Nat} (h : Rg t fa mo T (rows s) s) (hk : k < s.1 1) (hv : Vp s k one oth pl lk st la) (hst : st = 0 ∨ st = 3) (hq : ¬ inct s (nI k)) (hdc : dcC s k = nI q) (hq0 : 0 < q) (hq9 : q < 100) (hd : s.2.1 30 0 0 = nI d) (hd2 : s.2.1 1 0 7 = nI d) : sp_L_does [aR 1 0, aI 12, aI (nI k), aI 0, aI 0, aI 0] (chV one oth pl lk st la 1 s k) (Dn (nI q) (t + 1)) X := by
  have hn := Rg_n h
  have ck : cl (nI k) = k := clN (by omega)
  have y13 : ∀ j c, (chV one oth pl lk st la 1 s k).2.1 13 j c = s.2.1 13 j c := fun j c => rfl
  have edc : dcC (chV one oth pl lk st la 1 s k) k = nI q := by
    rw [← hdc]
    unfold dcC
    rw [hnC_fr y13]
    rfl
  refine do_12 ⟨Rg_CI h, fun z => absurd ((iC_N (s := s) (k := 1) (by omega) (by omega)).mpr hk) z, fun _ => ?_⟩
  rw [ck, edc]
  have s6 : s.2.1 13 k 6 = 0 ∨ s.2.1 13 k 6 = 3 := by
    rw [hv.2.1.2.2.2.2.1]
    rcases hst with e | e
    · rw [e]; exact Or.inl rfl
    · rw [e]; exact Or.inr rfl
  have hm : mbj (chV one oth pl lk st la 1 s k) (nI k) := by
    unfold mbj
    rw [ck]
    exact ⟨s6, hq⟩
  have hcan : ¬ nI q = 0 ∧ mbj (chV one oth pl lk st la 1 s k) (nI k) := ⟨fun w => by
    have := (n0 (by omega)).mp w
    omega, hm⟩
  refine ⟨fun z => absurd hcan z, fun _ => ⟨rfl, ?_⟩⟩
  have ed : (chV one oth pl lk st la 1 s k).2.1 1 0 7 = nI d := hd2
  rw [ed]
  exact Rl_of (Rg_turn h hk (by decide) hv hd)
end Do3

