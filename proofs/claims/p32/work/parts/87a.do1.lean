/-! the calls: persons -/
section Do1
variable {t : Nat} {fa mo : Nat → Nat} {T : Nat → Nat → Nat} {s s' : Sg} {X : Xt}
/-- one person is another, in class and law -/
theorem Rg_per {k : Nat} (h : Rg t fa mo T (rows s) s) (hk : k < s.1 0) (hn : s'.1 = s.1) (e12 : ∀ j c, ¬ j = k → s'.2.1 12 j c = s.2.1 12 j c) (e20 : ∀ j, ¬ j = k → s'.2.1 20 0 j = s.2.1 20 0 j) (e21 : ∀ j, j < 32 → ¬ j = 16 + k → s'.2.1 21 0 j = s.2.1 21 0 j)
    (eo : ∀ a b c, ¬ a = 12 → ¬ a = 20 → ¬ a = 21 → s'.2.1 a b c = s.2.1 a b c) (hl : s'.2.1 12 k 5 = s.2.1 12 k 5) (h1 : P1 fa mo (rows s') s' k) : Rg (t + 1) fa mo T (rows s') s' := by
  obtain ⟨h0, hP, h2, h3, h4, h5, h6⟩ := Rg_mono (t2 := t + 1) (Nat.le_succ t) h
  have hn16 := h0.2.2.2.1
  refine ⟨R0_fr (r := rows s) hn (fun _ => eo _ _ _ (by decide) (by decide) (by decide)) (fun _ => eo _ _ _ (by decide) (by decide) (by decide)) (fun _ => eo _ _ _ (by decide) (by decide) (by decide)) (eo _ _ _ (by decide) (by decide) (by decide)) (fun _ => eo _ _ _ (by decide) (by decide) (by decide)) h0, ⟨fun j hj => ?_, fun j hj hj2 => ?_⟩,
    RV_fr (r := rows s) (by rw [hn]) (by rw [hn]) (fun _ _ => eo _ _ _ (by decide) (by decide) (by decide)) (fun j => ?_) (fun _ _ => eo _ _ _ (by decide) (by decide) (by decide)) (fun _ => eo _ _ _ (by decide) (by decide) (by decide)) hn16.2.1 h2,
    RC_fr (r := rows s) (by rw [hn]) (by rw [hn]) (fun _ _ => eo _ _ _ (by decide) (by decide) (by decide)) (fun _ _ => eo _ _ _ (by decide) (by decide) (by decide)) (fun _ _ => eo _ _ _ (by decide) (by decide) (by decide)) (fun _ _ => eo _ _ _ (by decide) (by decide) (by decide)) (fun _ _ => eo _ _ _ (by decide) (by decide) (by decide)) (fun _ _ => eo _ _ _ (by decide) (by decide) (by decide)) (fun _ _ => eo _ _ _ (by decide) (by decide) (by decide)) (fun _ _ => eo _ _ _ (by decide) (by decide) (by decide)) hn16.2.2 h3,
    RF9_fr (r := rows s) (fun _ _ => eo _ _ _ (by decide) (by decide) (by decide)) (fun _ => eo _ _ _ (by decide) (by decide) (by decide)) (fun _ => eo _ _ _ (by decide) (by decide) (by decide)) h4, RD_fr (r := rows s) (fun _ _ => eo _ _ _ (by decide) (by decide) (by decide)) (fun _ => eo _ _ _ (by decide) (by decide) (by decide)) h5, RS_fr (by rw [hn]) (fun _ _ => eo _ _ _ (by decide) (by decide) (by decide)) h6⟩
  · rw [hn] at hj
    obtain ⟨q1, q2, q3⟩ := hP.1 j hj
    refine ⟨q1, q2, ?_⟩
    by_cases e : j = k
    · rw [e]; exact h1
    · unfold P1 rows at q3 ⊢
      rw [e12 j 0 e, e12 j 1 e, e12 j 2 e, e12 j 3 e, e12 j 4 e, e12 j 5 e, e20 j e, e21 j (by omega) (by omega), e21 (16 + j) (by omega) (by omega)]
      exact q3
  · rw [hn] at hj
    exact (e21 _ (by omega) (by omega)).trans (hP.2 j hj hj2)
  · by_cases e : j = k
    · rw [e]; exact hl
    · exact e12 j 5 e
theorem iCs {k j : Nat} (hR : Rl t s) (hk : k < 3) (hj : j < 100) : iC s k (nI j) ↔ j < s.1 k := by
  have := Rl_n hR
  refine iC_N ?_ (by omega)
  have : k = 0 ∨ k = 1 ∨ k = 2 := by omega
  rcases this with rfl | rfl | rfl <;> omega
theorem rite_1 {k : Nat} {x : Int32} (hR : Rl t s) (hk : ¬ k < s.1 0) (hk2 : k < 100) : sp_L_does [aR 1 0, aI 1, aI (nI k), aI x, aI 0, aI 0] s (Dn (-3000000) t) X :=
  do_1 ⟨Rl_CI hR, fun _ => ⟨rfl, hR⟩, fun z => absurd ((iCs hR (by decide) hk2).mp z) hk⟩
theorem rite_2 {k x : Nat} (hR : Rl t s) (hk : k < s.1 0) (hx : ¬ x < 3) (hx2 : x < 100) : sp_L_does [aR 1 0, aI 1, aI (nI k), aI (nI x), aI 0, aI 0] s (Dn (-2000000) t) X := by
  have := Rl_n hR
  exact do_1 ⟨Rl_CI hR, fun z => absurd ((iCs hR (by decide) (by omega)).mpr hk) z, fun _ => ⟨fun _ => ⟨rfl, hR⟩, fun z => absurd ((rgN (b := 3) (by omega) (by decide)).mp z) hx⟩⟩
theorem home_1 {k : Nat} {x : Int32} (hR : Rl t s) (hk : ¬ k < s.1 0) (hk2 : k < 100) : sp_L_does [aR 1 0, aI 2, aI (nI k), aI x, aI 0, aI 0] s (Dn (-3000000) t) X :=
  do_2 ⟨Rl_CI hR, fun _ => ⟨rfl, hR⟩, fun z => absurd ((iCs hR (by decide) hk2).mp z) hk⟩
theorem home_2 {k x : Nat} (hR : Rl t s) (hk : k < s.1 0) (hx : ¬ x < 8) (hx2 : x < 100) : sp_L_does [aR 1 0, aI 2, aI (nI k), aI (nI x), aI 0, aI 0] s (Dn (-2000000) t) X := by
  have := Rl_n hR
  exact do_2 ⟨Rl_CI hR, fun z => absurd ((iCs hR (by decide) (by omega)).mpr hk) z, fun _ => ⟨fun _ => ⟨rfl, hR⟩, fun z => absurd ((rgN (b := 8) (by omega) (by decide)).mp z) hx⟩⟩
/-- a person's parts -/
def Pp (fa mo : Nat → Nat) (s : Sg) (k ho ri od ba li : Nat) : Prop := (ho < 8 ∧ ri < 3 ∧ od < 2 ∧ ba < 2 ∧ li < 2) ∧ (s.2.1 12 k 1 = nI ho ∧ s.2.1 12 k 2 = nI ri ∧ s.2.1 12 k 3 = nI od ∧ s.2.1 12 k 4 = nI ba ∧ s.2.1 12 k 5 = nI li) ∧
  s.2.1 20 0 k = nI (pkP ho ri ba (1 - li) (fa k) (mo k)) ∧ s.2.1 21 0 k = s.2.1 12 k 0 ∧ (-36001 ≤ (s.2.1 12 k 0).toInt ∧ (s.2.1 12 k 0).toInt ≤ 1000000) ∧ ((od = 0 ∧ s.2.1 21 0 (16 + k) = -1) ∨ (od = 1 ∧ ∃ d, d < 2 ^ 30 ∧ s.2.1 21 0 (16 + k) = nI d))
theorem Rg_p {k : Nat} (h : Rg t fa mo T (rows s) s) (hk : k < s.1 0) : ∃ ho ri od ba li : Nat, Pp fa mo s k ho ri od ba li := (h.2.1.1 k hk).2.2
theorem Rg_fm {k : Nat} (h : Rg t fa mo T (rows s) s) (hk : k < s.1 0) : fa k ≤ k ∧ mo k ≤ k := ⟨(h.2.1.1 k hk).1, (h.2.1.1 k hk).2.1⟩
variable {k ho ri od ba li : Nat}
theorem rite_0 {x : Nat} (h : Rg t fa mo T (rows s) s) (hk : k < s.1 0) (hx : x < 3) (hp : Pp fa mo s k ho ri od ba li) :
    sp_L_does [aR 1 0, aI 1, aI (nI k), aI (nI x), aI 0, aI 0] (stS s 20 0 k (nI (pkP ho x ba (1 - li) (fa k) (mo k)))) (Dn (nI ri) (t + 1)) X := by
  have hn := Rg_n h
  have ck : cl (nI k) = k := clN (by omega)
  refine do_1 ⟨Rg_CI h, fun z => absurd ((iC_N (s := s) (k := 0) (by omega) (by omega)).mpr hk) z, fun _ => ⟨fun z => absurd ((rgN (b := 3) (by omega) (by decide)).mpr hx) z, fun _ => ?_⟩⟩
  rw [ck]
  refine ⟨congrArg (fun z => some (aI z)) hp.2.1.2.1, Rl_of (fa := fa) (mo := mo) (T := T) (Rg_per h hk rfl (fun j c hj => ?_) (fun j hj => ?_) (fun j _ hj => rfl) (fun a b c h1 h2 h3 => ?_) ?_ ?_)⟩
  · rw [stS_get, if_neg (fun z => hj z.2.1)]; rfl
  · show (stS s 20 0 k _).2.1 20 0 j = _
    rw [stS_get, if_neg (fun z => hj z.2.2)]
  · rw [stS_get, if_neg (fun z => h1 z.1), stS_get, if_neg (fun z => h2 z.1)]
  · rw [stS_get, if_neg (fun z => absurd z.2.2 (by decide))]; rfl
  · obtain ⟨q1, q2, q3, q4, q5, q6⟩ := hp
    exact ⟨ho, x, od, ba, li, ⟨q1.1, hx, q1.2.2⟩, by simpa [stS_get] using ⟨q2.1, q2.2.2⟩, by simp [stS_get], by simpa [stS_get] using q4, by simpa [stS_get] using q5, by simpa [stS_get] using q6⟩
theorem home_0 {x : Nat} (h : Rg t fa mo T (rows s) s) (hk : k < s.1 0) (hx : x < 8) (hp : Pp fa mo s k ho ri od ba li) :
    sp_L_does [aR 1 0, aI 2, aI (nI k), aI (nI x), aI 0, aI 0] (stS s 20 0 k (nI (pkP x ri ba (1 - li) (fa k) (mo k)))) (Dn (nI ho) (t + 1)) X := by
  have hn := Rg_n h
  have ck : cl (nI k) = k := clN (by omega)
  refine do_2 ⟨Rg_CI h, fun z => absurd ((iC_N (s := s) (k := 0) (by omega) (by omega)).mpr hk) z, fun _ => ⟨fun z => absurd ((rgN (b := 8) (by omega) (by decide)).mpr hx) z, fun _ => ?_⟩⟩
  rw [ck]
  refine ⟨congrArg (fun z => some (aI z)) hp.2.1.1, Rl_of (fa := fa) (mo := mo) (T := T) (Rg_per h hk rfl (fun j c hj => ?_) (fun j hj => ?_) (fun j _ hj => rfl) (fun a b c h1 h2 h3 => ?_) ?_ ?_)⟩
  · rw [stS_get, if_neg (fun z => hj z.2.1)]; rfl
  · show (stS s 20 0 k _).2.1 20 0 j = _
    rw [stS_get, if_neg (fun z => hj z.2.2)]
  · rw [stS_get, if_neg (fun z => h1 z.1), stS_get, if_neg (fun z => h2 z.1)]
  · rw [stS_get, if_neg (fun z => absurd z.2.2 (by decide))]; rfl
  · obtain ⟨q1, q2, q3, q4, q5, q6⟩ := hp
    exact ⟨x, ri, od, ba, li, ⟨hx, q1.2⟩, by simpa [stS_get] using q2.2, by simp [stS_get], by simpa [stS_get] using q4, by simpa [stS_get] using q5, by simpa [stS_get] using q6⟩
theorem order_1 (hR : Rl t s) (hk : ¬ k < s.1 0) (hk2 : k < 100) : sp_L_does [aR 1 0, aI 3, aI (nI k), aI 0, aI 0, aI 0] s (Dn (-3000000) t) X :=
  do_3 ⟨Rl_CI hR, fun _ => ⟨rfl, hR⟩, fun z => absurd ((iCs hR (by decide) hk2).mp z) hk⟩
theorem order_3 (hR : Rl t s) (hk : k < s.1 0) (hc : ¬ (¬ s.2.1 12 k 5 = 0 ∧ s.2.1 12 k 3 = 0)) : sp_L_does [aR 1 0, aI 3, aI (nI k), aI 0, aI 0, aI 0] s (Dn (-1000000) t) X := by
  have := Rl_n hR
  refine do_3 ⟨Rl_CI hR, fun z => absurd ((iCs hR (by decide) (by omega)).mpr hk) z, fun _ => ?_⟩
  rw [clN (by omega)]
  exact ⟨fun _ => ⟨rfl, hR⟩, fun z => absurd z hc⟩
theorem order_0 {d : Nat} (h : Rg t fa mo T (rows s) s) (hk : k < s.1 0) (hd : d < 2 ^ 30) (hli : li = 1) (hod : od = 0) (hp : Pp fa mo s k ho ri od ba li) : sp_L_does [aR 1 0, aI 3, aI (nI k), aI 0, aI 0, aI 0] (stS s 21 0 (16 + k) (nI d)) (Dn 0 (t + 1)) X := by
  have hn := Rg_n h
  have ck : cl (nI k) = k := clN (by omega)
  refine do_3 ⟨Rg_CI h, fun z => absurd ((iC_N (s := s) (k := 0) (by omega) (by omega)).mpr hk) z, fun _ => ?_⟩
  rw [ck]
  obtain ⟨q1, q2, q3, q4, q5, q6⟩ := hp
  have a1 : ¬ s.2.1 12 k 5 = 0 := by rw [q2.2.2.2.2, hli]; decide
  have a2 : s.2.1 12 k 3 = 0 := by rw [q2.2.2.1, hod]; rfl
  refine ⟨fun z => absurd (⟨a1, a2⟩ : ¬ s.2.1 12 k 5 = 0 ∧ s.2.1 12 k 3 = 0) z, fun _ => ?_⟩
  refine ⟨rfl, Rl_of (fa := fa) (mo := mo) (T := T) (Rg_per h hk rfl (fun j c hj => ?_) (fun j hj => rfl) (fun j _ hj => ?_) (fun a b c h1 h2 h3 => ?_) ?_ ?_)⟩
  · rw [stS_get, if_neg (fun z => hj z.2.1)]; rfl
  · show (stS s 21 0 (16 + k) _).2.1 21 0 j = _
    rw [stS_get, if_neg (fun z => hj z.2.2)]
  · rw [stS_get, if_neg (fun z => h1 z.1), stS_get, if_neg (fun z => h3 z.1)]
  · rw [stS_get, if_neg (fun z => absurd z.2.2 (by decide))]; rfl
  · exact ⟨ho, ri, 1, ba, li, ⟨q1.1, q1.2.1, by decide, q1.2.2.2⟩, by simpa [stS_get] using ⟨q2.1, q2.2.1, rfl, q2.2.2.2⟩, by simpa [stS_get] using q3, by simpa [stS_get] using q4, by simpa [stS_get] using q5, Or.inr ⟨rfl, d, hd, by simp [stS_get]⟩⟩
theorem ban_1 (hR : Rl t s) (hk : ¬ k < s.1 0) (hk2 : k < 100) : sp_L_does [aR 1 0, aI 4, aI (nI k), aI 0, aI 0, aI 0] s (Dn (-3000000) t) X :=
  do_4 ⟨Rl_CI hR, fun _ => ⟨rfl, hR⟩, fun z => absurd ((iCs hR (by decide) hk2).mp z) hk⟩
theorem ban_0 (h : Rg t fa mo T (rows s) s) (hk : k < s.1 0) (hp : Pp fa mo s k ho ri od ba li) : sp_L_does [aR 1 0, aI 4, aI (nI k), aI 0, aI 0, aI 0] (stS s 20 0 k (nI (pkP ho ri (1 - ba) (1 - li) (fa k) (mo k)))) (Dn (nI (1 - ba)) (t + 1)) X := by
  have hn := Rg_n h
  have ck : cl (nI k) = k := clN (by omega)
  refine do_4 ⟨Rg_CI h, fun z => absurd ((iC_N (s := s) (k := 0) (by omega) (by omega)).mpr hk) z, fun _ => ?_⟩
  rw [ck]
  obtain ⟨q1, q2, q3, q4, q5, q6⟩ := hp
  have g : ∀ b : Nat, b < 2 → b = 1 - ba → Rl (t + 1) (stS (stS s 20 0 k (nI (pkP ho ri (1 - ba) (1 - li) (fa k) (mo k)))) 12 k 4 (nI b)) := by
    intro b hb hbe
    refine Rl_of (fa := fa) (mo := mo) (T := T) (Rg_per h hk rfl (fun j c hj => ?_) (fun j hj => ?_) (fun j _ hj => rfl) (fun a b c h1 h2 h3 => ?_) ?_ ?_)
    · rw [stS_get, if_neg (fun z => hj z.2.1)]; rfl
    · show (stS s 20 0 k _).2.1 20 0 j = _
      rw [stS_get, if_neg (fun z => hj z.2.2)]
    · rw [stS_get, if_neg (fun z => h1 z.1), stS_get, if_neg (fun z => h2 z.1)]
    · rw [stS_get, if_neg (fun z => absurd z.2.2 (by decide))]; rfl
    · subst hbe
      exact ⟨ho, ri, od, 1 - ba, li, ⟨q1.1, q1.2.1, q1.2.2.1, hb, q1.2.2.2.2⟩, by simpa [stS_get] using ⟨q2.1, q2.2.1, q2.2.2.1, q2.2.2.2.2⟩, by simp [stS_get], by simpa [stS_get] using q4, by simpa [stS_get] using q5, by simpa [stS_get] using q6⟩
  have hb : ba = 0 ∨ ba = 1 := by omega
  have e4 : s.2.1 12 k 4 = nI ba := q2.2.2.2.1
  refine ⟨fun z => ⟨fun _ => ?_, fun z => absurd z (by decide)⟩, fun z => ⟨fun z => absurd rfl z, fun _ => ?_⟩⟩
  · rcases hb with rfl | rfl
    · exact ⟨rfl, g 1 (by decide) rfl⟩
    · exact absurd (e4.symm.trans z) (by decide)
  · rcases hb with rfl | rfl
    · exact absurd e4 z
    · exact ⟨rfl, g 0 (by decide) rfl⟩
end Do1

