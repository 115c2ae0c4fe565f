/-! the calls: votes, sentences, appeals -/
section Do5
variable {t : Nat} {fa mo : Nat → Nat} {T : Nat → Nat → Nat} {s s' : Sg} {X : Xt} {k : Nat} {vw db st ins a b d x y z : Nat}
theorem m1_iff {n : Nat} (h : n < 2 ^ 30) : nI n - 1 = -1 ↔ n = 0 := by
  constructor
  · intro q
    cases n with
    | zero => rfl
    | succ n =>
      rw [nI_pred] at q
      refine absurd (congrArg Int32.toInt q) ?_
      rw [nI_toInt (by omega), show (-1 : Int32).toInt = -1 from rfl]
      omega
  · rintro rfl
    rfl
theorem vc1_N {n : Nat} (h : n < 2 ^ 30) : vc1 (nI n - 1) = nI (if n = 0 then 0 else 1) := by
  unfold vc1
  by_cases c : n = 0
  · rw [if_pos ((m1_iff h).mpr c), if_pos c]; rfl
  · rw [if_neg (fun z => c ((m1_iff h).mp z)), if_neg c]; rfl
/-- how many have voted -/
def vcN (a b d : Nat) : Nat := (if a = 0 then 0 else 1) + (if b = 0 then 0 else 1) + (if d = 0 then 0 else 1)
theorem vcC_N (ha : a < 129) (hb : b < 129) (hd : d < 129) (h : s.2.1 16 k 0 = nI a - 1 ∧ s.2.1 16 k 1 = nI b - 1 ∧ s.2.1 16 k 2 = nI d - 1) : vcC s k = nI (vcN a b d) := by
  unfold vcC vcN
  rw [h.1, h.2.1, h.2.2, vc1_N (by omega), vc1_N (by omega), vc1_N (by omega), nI_add, nI_add]
theorem vote_1 {j g : Int32} (hR : Rl t s) (hk : ¬ k < s.1 2) (hk2 : k < 100) : sp_L_does [aR 1 0, aI 17, aI (nI k), aI j, aI g, aI 0] s (Dn (-3000000) t) X :=
  do_17 ⟨Rl_CI hR, fun _ => ⟨rfl, hR⟩, fun z => absurd ((iCs hR (by decide) hk2).mp z) hk⟩
theorem vote_1b {j : Nat} {g : Int32} (hR : Rl t s) (hk : k < s.1 2) (hj : ¬ j < 3) (hj2 : j < 100) : sp_L_does [aR 1 0, aI 17, aI (nI k), aI (nI j), aI g, aI 0] s (Dn (-3000000) t) X := by
  have := Rl_n hR
  exact do_17 ⟨Rl_CI hR, fun z => absurd ((iCs hR (by decide) (by omega)).mpr hk) z, fun _ => ⟨fun _ => ⟨rfl, hR⟩, fun z => absurd ((rgN (b := 3) (by omega) (by decide)).mp z) hj⟩⟩
theorem vote_2 {j g : Nat} (hR : Rl t s) (hk : k < s.1 2) (hj : j < 3) (hg : g < 1000) (hg2 : ¬ g < 128) : sp_L_does [aR 1 0, aI 17, aI (nI k), aI (nI j), aI (nI g), aI 0] s (Dn (-2000000) t) X := by
  have := Rl_n hR
  exact do_17 ⟨Rl_CI hR, fun z => absurd ((iCs hR (by decide) (by omega)).mpr hk) z, fun _ => ⟨fun z => absurd ((rgN (b := 3) (by omega) (by decide)).mpr hj) z, fun _ => ⟨fun _ => ⟨rfl, hR⟩, fun z => absurd (Nat.lt_succ_of_le ((rgL (b := 127) (by omega) (by decide)).mp z)) hg2⟩⟩⟩
theorem vote_3 {j g : Nat} (hR : Rl t s) (hk : k < s.1 2) (hj : j < 3) (hg : g < 128) (hc : ¬ ((s.2.1 14 k 2 = 1 ∧ s.2.1 16 k j = -1) ∧ nI g &&& (prC s k ^^^ -1) = 0)) : sp_L_does [aR 1 0, aI 17, aI (nI k), aI (nI j), aI (nI g), aI 0] s (Dn (-1000000) t) X := by
  have := Rl_n hR
  refine do_17 ⟨Rl_CI hR, fun z => absurd ((iCs hR (by decide) (by omega)).mpr hk) z, fun _ => ⟨fun z => absurd ((rgN (b := 3) (by omega) (by decide)).mpr hj) z, fun _ => ⟨fun z => absurd ((rgL (b := 127) (by omega) (by decide)).mpr (by omega)) z, fun _ => ?_⟩⟩⟩
  rw [clN (by omega), clN (by omega)]
  exact ⟨fun _ => ⟨rfl, hR⟩, fun z1 => ⟨fun _ => ⟨rfl, hR⟩, fun z2 => absurd ⟨z1, z2⟩ hc⟩⟩
/-- a judge's place -/
def vj (j v a0 : Nat) (i : Nat) : Nat := if j = i then v else a0
theorem vote_0 {j g : Nat} (h : Rg t fa mo T (rows s) s) (hk : k < s.1 2) (hj : j < 3) (hg : g < 128) (hp : Cp t s k vw db st ins a b d x y z) (hst : st = 1) (hs : (j = 0 → a = 0) ∧ (j = 1 → b = 0) ∧ (j = 2 → d = 0)) (hpr : nI g &&& (prC s k ^^^ -1) = 0) :
    sp_L_does [aR 1 0, aI 17, aI (nI k), aI (nI j), aI (nI g), aI 0] (stS s 28 0 k (nI (pk3 (vj j (g + 1) a 0) (vj j (g + 1) b 1) (vj j (g + 1) d 2)))) (Dn (nI (vcN (vj j (g + 1) a 0) (vj j (g + 1) b 1) (vj j (g + 1) d 2))) (t + 1)) X := by
  have hn := Rg_n h
  have ck : cl (nI k) = k := clN (by omega)
  have cj : cl (nI j) = j := clN (by omega)
  obtain ⟨q1, q2, q3, q4, q5, q6, q7, q8, q9, q10⟩ := hp
  have hcan : s.2.1 14 k 2 = 1 ∧ s.2.1 16 k j = -1 := by
    refine ⟨by rw [q3.2.2.1, hst]; rfl, ?_⟩
    have : j = 0 ∨ j = 1 ∨ j = 2 := by omega
    rcases this with rfl | rfl | rfl
    · rw [q5.1, hs.1 rfl]; rfl
    · rw [q5.2.1, hs.2.1 rfl]; rfl
    · rw [q5.2.2, hs.2.2 rfl]; rfl
  refine do_17 ⟨Rg_CI h, fun z => absurd ((iC_N (s := s) (k := 2) (by omega) (by omega)).mpr hk) z, fun _ => ⟨fun z => absurd ((rgN (b := 3) (by omega) (by decide)).mpr hj) z, fun _ => ⟨fun z => absurd ((rgL (b := 127) (by omega) (by decide)).mpr (by omega)) z, fun _ => ?_⟩⟩⟩
  rw [ck, cj]
  refine ⟨fun z => absurd hcan z, fun _ => ⟨fun z => absurd hpr z, fun _ => ?_⟩⟩
  obtain ⟨w, hw⟩ : ∃ w, w = stS (stS s 28 0 k (nI (pk3 (vj j (g + 1) a 0) (vj j (g + 1) b 1) (vj j (g + 1) d 2)))) 16 k j (nI g) := ⟨_, rfl⟩
  have e16 : w.2.1 16 k 0 = nI (vj j (g + 1) a 0) - 1 ∧ w.2.1 16 k 1 = nI (vj j (g + 1) b 1) - 1 ∧ w.2.1 16 k 2 = nI (vj j (g + 1) d 2) - 1 := by
    have key : ∀ i a0 : Nat, s.2.1 16 k i = nI a0 - 1 → w.2.1 16 k i = nI (vj j (g + 1) a0 i) - 1 := by
      intro i a0 e
      unfold vj
      rw [hw, stS_get]
      by_cases c : j = i
      · rw [if_pos ⟨rfl, rfl, c.symm⟩, if_pos c, nI_pred]
      · rw [if_neg (fun z => c z.2.2.symm), if_neg c]
        exact e
    exact ⟨key 0 a q5.1, key 1 b q5.2.1, key 2 d q5.2.2⟩
  have l : vj j (g + 1) a 0 < 129 ∧ vj j (g + 1) b 1 < 129 ∧ vj j (g + 1) d 2 < 129 := by
    unfold vj
    refine ⟨?_, ?_, ?_⟩ <;> (split <;> omega)
  rw [← hw]
  refine ⟨congrArg (fun z => some (aI z)) (vcC_N l.1 l.2.1 l.2.2 e16), ?_⟩
  have wo : ∀ a b c, ¬ (a = 28 ∧ b = 0 ∧ c = k) → ¬ (a = 16 ∧ b = k) → w.2.1 a b c = s.2.1 a b c := fun a b c h1 h2 => by rw [hw, stS_get, if_neg (fun z => h2 ⟨z.1, z.2.1⟩), stS_get, if_neg h1]
  have wn : w.1 = s.1 := by rw [hw]; rfl
  refine Rl_of (fa := fa) (mo := mo) (T := T) (Rg_cs h wn (fun j => wo _ _ _ (by omega) (by omega)) (fun a b c ha => wo _ _ _ (by omega) (by omega)) (RC_one h hk wn (fun a j c h1 h2 hj => wo _ _ _ (by omega) (by omega)) (fun j hj => wo _ _ _ (by omega) (by omega)) (fun j i _ hj => wo _ _ _ (by omega) (by omega)) (fun j hj => wo _ _ _ (by omega) (by omega)) (fun j hj => wo _ _ _ (by omega) (by omega)) ?_))
  refine ⟨vw, db, st, ins, _, _, _, x, y, z, by rw [wn]; exact q1, ⟨l.1, l.2.1, l.2.2, q2.2.2.2⟩, ?_, ?_, e16, ?_, ?_, ?_, fun j hj => ?_, q10⟩
  · rw [wo 14 k 0 (by omega) (by omega), wo 14 k 1 (by omega) (by omega), wo 14 k 2 (by omega) (by omega), wo 14 k 3 (by omega) (by omega)]; exact q3
  · exact (wo 26 0 k (by omega) (by omega)).trans q4
  · rw [hw]; simp [stS_get]
  · rw [wo 17 k 0 (by omega) (by omega), wo 17 k 1 (by omega) (by omega), wo 17 k 2 (by omega) (by omega)]; exact q7
  · exact (wo 29 0 k (by omega) (by omega)).trans q8
  · have v := q9 j hj
    show w.2.1 27 0 (7 * k + j) = w.2.1 15 k j ∧ -(10 * ((t + 1 : Nat) : Int)) ≤ (w.2.1 15 k j).toInt ∧ (w.2.1 15 k j).toInt ≤ 10 * ((t + 1 : Nat) : Int)
    rw [wo 27 0 _ (by omega) (by omega), wo 15 k j (by omega) (by omega)]
    exact ⟨v.1, by omega, by omega⟩
theorem appe_1 (hR : Rl t s) (hk : ¬ k < s.1 2) (hk2 : k < 100) : sp_L_does [aR 1 0, aI 19, aI (nI k), aI 0, aI 0, aI 0] s (Dn (-3000000) t) X :=
  do_19 ⟨Rl_CI hR, fun _ => ⟨rfl, hR⟩, fun z => absurd ((iCs hR (by decide) hk2).mp z) hk⟩
theorem appe_3 (hR : Rl t s) (hk : k < s.1 2) (hc : ¬ ((s.2.1 14 k 2 = 3 ∧ s.2.1 14 k 3 = 1) ∧ mbj s (s.2.1 14 k 0))) : sp_L_does [aR 1 0, aI 19, aI (nI k), aI 0, aI 0, aI 0] s (Dn (-1000000) t) X := by
  have := Rl_n hR
  refine do_19 ⟨Rl_CI hR, fun z => absurd ((iCs hR (by decide) (by omega)).mpr hk) z, fun _ => ?_⟩
  rw [clN (by omega)]
  exact ⟨fun _ => ⟨rfl, hR⟩, fun z1 => ⟨fun _ => ⟨rfl, hR⟩, fun z2 => absurd ⟨z1, z2⟩ hc⟩⟩
theorem appe_0 (h : Rg t fa mo T (rows s) s) (hk : k < s.1 2) (hp : Cp t s k vw db st ins a b d x y z) (hst : st = 3) (hin : ins = 1) (hm : mbj s (nI vw)) :
    sp_L_does [aR 1 0, aI 19, aI (nI k), aI 0, aI 0, aI 0] (stS (stS s 26 0 k (nI (pkC vw db 0 2))) 28 0 k 0) (Dn 0 (t + 1)) X := by
  have hn := Rg_n h
  have ck : cl (nI k) = k := clN (by omega)
  obtain ⟨q1, q2, q3, q4, q5, q6, q7, q8, q9, q10⟩ := hp
  obtain ⟨v, hv⟩ : ∃ v, v = stS (stS s 26 0 k (nI (pkC vw db 0 2))) 28 0 k 0 := ⟨_, rfl⟩
  have vo : ∀ a b c, a < 26 → v.2.1 a b c = s.2.1 a b c := fun a b c ha => by rw [hv, stS_get, if_neg (by omega), stS_get, if_neg (by omega)]
  have vn : v.1 = s.1 := by rw [hv]; rfl
  rw [← hv]
  have hcan : v.2.1 14 k 2 = 3 ∧ v.2.1 14 k 3 = 1 := by
    rw [vo _ _ _ (by decide), vo _ _ _ (by decide), q3.2.2.1, q3.2.2.2, hst, hin]; exact ⟨rfl, rfl⟩
  have hm2 : mbj v (v.2.1 14 k 0) := by
    rw [vo 14 k 0 (by decide), q3.1]
    unfold mbj inct at hm ⊢
    rw [vo _ _ _ (by decide), vn]
    refine ⟨hm.1, fun ⟨c, hc, w⟩ => hm.2 ⟨c, hc, ?_⟩⟩
    rw [vo _ _ _ (by decide), vo _ _ _ (by decide)] at w
    exact w
  refine do_19 ⟨CI_fr vn (fun _ => vo _ _ _ (by decide)) (fun _ => vo _ _ _ (by decide)) (fun _ => vo _ _ _ (by decide)) (Rg_CI h), fun z => absurd ((iC_N (s := v) (k := 2) (by rw [vn]; omega) (by omega)).mpr (by rw [vn]; exact hk)) z, fun _ => ?_⟩
  rw [ck]
  refine ⟨fun z => absurd hcan z, fun _ => ⟨fun z => absurd hm2 z, fun _ => ⟨rfl, ?_⟩⟩⟩
  obtain ⟨w, hw⟩ : ∃ w, w = reoC v k := ⟨_, rfl⟩
  have wn : w.1 = s.1 := by rw [hw]; exact vn
  have w14 : ∀ c, ¬ c = 2 → ¬ c = 3 → w.2.1 14 k c = s.2.1 14 k c := fun c h2 h3 => by
    rw [hw]; unfold reoC
    rw [stI_get, if_neg (by omega), stS_get, if_neg (by omega), stS_get, if_neg (by omega), vo 14 k c (by decide)]
  have w142 : w.2.1 14 k 2 = 0 := by
    rw [hw]; unfold reoC
    rw [stI_get, if_neg (by omega), stS_get, if_pos ⟨rfl, rfl, rfl⟩]
  have w143 : w.2.1 14 k 3 = nI 2 := by
    rw [hw]; unfold reoC
    rw [stI_get, if_neg (by omega), stS_get, if_neg (by omega), stS_get, if_pos ⟨rfl, rfl, rfl⟩, hcan.2]
    rfl
  have w16 : ∀ c, c < 3 → w.2.1 16 k c = -1 := fun c hc => by
    rw [hw]; unfold reoC
    rw [stI_get, if_pos ⟨rfl, rfl, hc⟩]
  have wo : ∀ a b c, ¬ (a = 26 ∧ b = 0 ∧ c = k) → ¬ (a = 28 ∧ b = 0 ∧ c = k) → ¬ (a = 14 ∧ b = k) → ¬ (a = 16 ∧ b = k) → w.2.1 a b c = s.2.1 a b c := fun a b c h1 h2 h3 h4 => by
    rw [hw]; unfold reoC
    rw [stI_get, if_neg (fun z => h4 ⟨z.1, z.2.1⟩), stS_get, if_neg (fun z => h3 ⟨z.1, z.2.1⟩), stS_get, if_neg (fun z => h3 ⟨z.1, z.2.1⟩), hv, stS_get, if_neg h2, stS_get, if_neg h1]
  have w26 : w.2.1 26 0 k = nI (pkC vw db 0 2) := by
    rw [hw]; unfold reoC
    rw [stI_get, if_neg (by omega), stS_get, if_neg (by omega), stS_get, if_neg (by omega), hv, stS_get, if_neg (by omega), stS_get, if_pos ⟨rfl, rfl, rfl⟩]
  have w28 : w.2.1 28 0 k = 0 := by
    rw [hw]; unfold reoC
    rw [stI_get, if_neg (by omega), stS_get, if_neg (by omega), stS_get, if_neg (by omega), hv, stS_get, if_pos ⟨rfl, rfl, rfl⟩]
  rw [← hw]
  refine Rl_of (fa := fa) (mo := mo) (T := T) (Rg_cs h wn (fun j => ?_) (fun a b c ha => wo _ _ _ (by omega) (by omega) (by omega) (by omega)) (RC_one h hk wn (fun a j c h1 h2 hj => wo _ _ _ (by omega) (by omega) (by omega) (by omega)) (fun j hj => wo _ _ _ (by omega) (by omega) (by omega) (by omega)) (fun j i _ hj => wo _ _ _ (by omega) (by omega) (by omega) (by omega)) (fun j hj => wo _ _ _ (by omega) (by omega) (by omega) (by omega)) (fun j hj => wo _ _ _ (by omega) (by omega) (by omega) (by omega)) ?_))
  · by_cases e : j = k
    · rw [e]; exact w14 0 (by decide) (by decide)
    · exact wo _ _ _ (by omega) (by omega) (by omega) (by omega)
  · obtain ⟨x1, x2⟩ := q10.2 (by omega)
    obtain ⟨x3, x4⟩ := x2 hin
    refine ⟨vw, db, 0, 2, 0, 0, 0, x, y, z, ⟨by rw [wn]; exact q1.1, q1.2.1, q1.2.2.1, by decide, by decide, by decide⟩, ⟨by decide, by decide, by decide, q2.2.2.2⟩, ⟨?_, ?_, ?_, ?_⟩, w26, ⟨?_, ?_, ?_⟩, ?_, ?_, ?_, fun j hj => ?_, fun _ => Or.inr (Or.inl ⟨rfl, x1, x3, x4⟩), fun z => absurd z (by decide)⟩
    · rw [w14 0 (by decide) (by decide)]; exact q3.1
    · rw [w14 1 (by decide) (by decide)]; exact q3.2.1
    · rw [w142]; rfl
    · exact w143
    · exact w16 0 (by decide)
    · exact w16 1 (by decide)
    · exact w16 2 (by decide)
    · exact w28
    · rw [wo 17 k 0 (by omega) (by omega) (by omega) (by omega), wo 17 k 1 (by omega) (by omega) (by omega) (by omega), wo 17 k 2 (by omega) (by omega) (by omega) (by omega)]; exact q7
    · exact (wo 29 0 k (by omega) (by omega) (by omega) (by omega)).trans q8
    · have v := q9 j hj
      show w.2.1 27 0 (7 * k + j) = w.2.1 15 k j ∧ -(10 * ((t + 1 : Nat) : Int)) ≤ (w.2.1 15 k j).toInt ∧ (w.2.1 15 k j).toInt ≤ 10 * ((t + 1 : Nat) : Int)
      rw [wo 27 0 _ (by omega) (by omega) (by omega) (by omega), wo 15 k j (by omega) (by omega) (by omega) (by omega)]
      exact ⟨v.1, by omega, by omega⟩
end Do5

