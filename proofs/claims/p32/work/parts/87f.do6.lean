/-! the calls: sentences -/
section Do6
variable {t : Nat} {fa mo : Nat → Nat} {T : Nat → Nat → Nat} {s s' : Sg} {X : Xt} {k : Nat}
/-- vows are others, in class and law -/
theorem Rg_vw0 (h : Rg t fa mo T (rows s) s) (hn : s'.1 = s.1) (e0 : ∀ a, s'.2.1 13 a 0 = s.2.1 13 a 0) (e1 : ∀ a, s'.2.1 13 a 1 = s.2.1 13 a 1) (eo : ∀ a b c, ¬ a = 13 → ¬ a = 24 → ¬ a = 25 → s'.2.1 a b c = s.2.1 a b c) (hV : RV (rows s') s') : Rg t fa mo T (rows s') s' := by
  obtain ⟨h0, hP, h2, h3, h4, h5, h6⟩ := h
  have hn16 := h0.2.2.2.1
  exact ⟨R0_fr (r := rows s) hn e0 e1 (fun _ => eo _ _ _ (by decide) (by decide) (by decide)) (eo _ _ _ (by decide) (by decide) (by decide)) (fun _ => eo _ _ _ (by decide) (by decide) (by decide)) h0,
    RPe_fr (r := rows s) (by rw [hn]) (fun _ _ => eo _ _ _ (by decide) (by decide) (by decide)) (fun _ _ => eo _ _ _ (by decide) (by decide) (by decide)) (fun _ _ => eo _ _ _ (by decide) (by decide) (by decide)) hn16.1 hP, hV,
    RC_fr (r := rows s) (by rw [hn]) (by rw [hn]) (fun _ _ => eo _ _ _ (by decide) (by decide) (by decide)) (fun _ _ => eo _ _ _ (by decide) (by decide) (by decide)) (fun _ _ => eo _ _ _ (by decide) (by decide) (by decide)) (fun _ _ => eo _ _ _ (by decide) (by decide) (by decide)) (fun _ _ => eo _ _ _ (by decide) (by decide) (by decide)) (fun _ _ => eo _ _ _ (by decide) (by decide) (by decide)) (fun _ _ => eo _ _ _ (by decide) (by decide) (by decide)) (fun _ _ => eo _ _ _ (by decide) (by decide) (by decide)) hn16.2.2 h3,
    RF9_fr (r := rows s) (fun _ _ => eo _ _ _ (by decide) (by decide) (by decide)) (fun _ => eo _ _ _ (by decide) (by decide) (by decide)) (fun _ => eo _ _ _ (by decide) (by decide) (by decide)) h4, RD_fr (r := rows s) (fun _ _ => eo _ _ _ (by decide) (by decide) (by decide)) (fun _ => eo _ _ _ (by decide) (by decide) (by decide)) h5, RS_fr (by rw [hn]) (fun _ _ => eo _ _ _ (by decide) (by decide) (by decide)) h6⟩
/-- one vow turns -/
theorem Rg_turn0 {one oth pl lk st la w d : Nat} (h : Rg t fa mo T (rows s) s) (hk : k < s.1 1) (hw : 0 < w ∧ w < 4) (hv : Vp s k one oth pl lk st la) (hd : s.2.1 30 0 0 = nI d) :
    Rg t fa mo T (rows (stS (stS (chV one oth pl lk st la w s k) 13 k 6 (nI w)) 13 k 7 (nI d))) (stS (stS (chV one oth pl lk st la w s k) 13 k 6 (nI w)) 13 k 7 (nI d)) := by
  have hn := Rg_n h
  refine Rg_vw0 h rfl (fun a => ?_) (fun a => ?_) (fun a b c h1 h2 h3 => ?_) (fun j hj => ?_)
  · rw [stS_get, if_neg (fun z => absurd z.2.2 (by decide)), stS_get, if_neg (fun z => absurd z.2.2 (by decide))]; rfl
  · rw [stS_get, if_neg (fun z => absurd z.2.2 (by decide)), stS_get, if_neg (fun z => absurd z.2.2 (by decide))]; rfl
  · unfold chV
    rw [stS_get, if_neg (fun z => h1 z.1), stS_get, if_neg (fun z => h1 z.1), stS_get, if_neg (fun z => h3 z.1), stS_get, if_neg (fun z => h2 z.1)]
  · by_cases e : j = k
    · subst e
      obtain ⟨q1, q2, q3, q4, q5, q6⟩ := hv
      refine ⟨one, oth, pl, lk, w, la, ⟨q1.1, q1.2.1, q1.2.2.1, q1.2.2.2.1, hw.2, q1.2.2.2.2.2⟩, ⟨?_, ?_, ?_, ?_, ?_, ?_⟩, ?_, ?_, ?_, fun z => by omega⟩
      · rw [stS_get, if_neg (by omega), stS_get, if_neg (by omega)]; exact q2.1
      · rw [stS_get, if_neg (by omega), stS_get, if_neg (by omega)]; exact q2.2.1
      · rw [stS_get, if_neg (by omega), stS_get, if_neg (by omega)]; exact q2.2.2.1
      · rw [stS_get, if_neg (by omega), stS_get, if_neg (by omega)]; exact q2.2.2.2.1
      · rw [stS_get, if_neg (by omega), stS_get, if_pos ⟨rfl, rfl, rfl⟩]
      · rw [stS_get, if_neg (by omega), stS_get, if_neg (by omega)]; exact q2.2.2.2.2.2
      · exact if_pos ⟨rfl, rfl, rfl⟩
      · rw [stS_get, if_neg (by omega), stS_get, if_neg (by omega)]
        show (chV one oth pl lk st la w s j).2.1 25 0 j = s.2.1 13 j 3
        unfold chV
        rw [stS_get, if_neg (by omega)]
        exact q4
      · rw [stS_get, if_pos ⟨rfl, rfl, rfl⟩]
        show (chV one oth pl lk st la w s j).2.1 25 0 (16 + j) = _
        unfold chV
        rw [stS_get, if_pos ⟨rfl, rfl, rfl⟩]
        exact hd
    · have h9 := h.2.2.1 j hj
      have hj' : j < s.1 1 := hj
      have o : ∀ c, (stS (stS (chV one oth pl lk st la w s k) 13 k 6 (nI w)) 13 k 7 (nI d)).2.1 13 j c = s.2.1 13 j c := fun c => by rw [stS_get, if_neg (fun z => e z.2.1), stS_get, if_neg (fun z => e z.2.1)]; rfl
      have o24 : rows (stS (stS (chV one oth pl lk st la w s k) 13 k 6 (nI w)) 13 k 7 (nI d)) 24 j = rows s 24 j := by
        show (stS (stS s 24 0 k (nI (pkV one oth pl lk w la))) 25 0 (16 + k) (s.2.1 30 0 0)).2.1 24 0 j = _
        rw [stS_get, if_neg (by omega), stS_get, if_neg (by omega)]
      have o25 : ∀ i, ¬ i = 16 + k → rows (stS (stS (chV one oth pl lk st la w s k) 13 k 6 (nI w)) 13 k 7 (nI d)) 25 i = rows s 25 i := fun i hi => by
        show (stS (stS s 24 0 k (nI (pkV one oth pl lk w la))) 25 0 (16 + k) (s.2.1 30 0 0)).2.1 25 0 i = _
        rw [stS_get, if_neg (by omega)]
        rfl
      unfold V1 at h9 ⊢
      rw [o24, o25 j (by omega), o25 (16 + j) (by omega)]
      simp only [o]
      exact h9
variable {vw db st ins a b d x y z : Nat}
theorem sent_1 (hR : Rl t s) (hk : ¬ k < s.1 2) (hk2 : k < 100) : sp_L_does [aR 1 0, aI 18, aI (nI k), aI 0, aI 0, aI 0] s (Dn (-3000000) t) X :=
  do_18 ⟨Rl_CI hR, fun _ => ⟨rfl, hR⟩, fun z => absurd ((iCs hR (by decide) hk2).mp z) hk⟩
theorem sent_3 (hR : Rl t s) (hk : k < s.1 2) (hc : ¬ (s.2.1 14 k 2 = 1 ∧ vcC s k = 3)) : sp_L_does [aR 1 0, aI 18, aI (nI k), aI 0, aI 0, aI 0] s (Dn (-1000000) t) X := by
  have := Rl_n hR
  refine do_18 ⟨Rl_CI hR, fun z => absurd ((iCs hR (by decide) (by omega)).mpr hk) z, fun _ => ?_⟩
  rw [clN (by omega)]
  exact ⟨fun _ => ⟨rfl, hR⟩, fun z => absurd z hc⟩
theorem sent_0 (h : Rg t fa mo T (rows s) s) (hk : k < s.1 2) (hp : Cp t s k vw db st ins (a + 1) (b + 1) (d + 1) x y z) (hst : st = 1) :
    sp_L_does [aR 1 0, aI 18, aI (nI k), aI 0, aI 0, aI 0] s (fun v s2 => v = some (aI (nI (majL a b d 7))) ∧ s2 = seS (coC s k (nI (majL a b d 7))) k) X := by
  have hn := Rg_n h
  have ck : cl (nI k) = k := clN (by omega)
  obtain ⟨q1, q2, q3, q4, q5, q6, q7, q8, q9, q10⟩ := hp
  have hv3 : vcC s k = 3 := by
    rw [vcC_N q2.1 q2.2.1 q2.2.2.1 q5]
    rfl
  have hcan : s.2.1 14 k 2 = 1 ∧ vcC s k = 3 := ⟨by rw [q3.2.2.1, hst]; rfl, hv3⟩
  have hmj : mjC s k = nI (majL a b d 7) := by
    unfold mjC
    rw [q5.1, q5.2.1, q5.2.2, nI_pred, nI_pred, nI_pred]
    exact maj_cl (by omega) (by omega) (by omega)
  refine do_18 ⟨Rg_CI h, fun z => absurd ((iC_N (s := s) (k := 2) (by omega) (by omega)).mpr hk) z, fun _ => ?_⟩
  rw [ck, hmj]
  exact ⟨fun z => absurd hcan z, fun _ => ⟨rfl, rfl⟩⟩
/-- the class's cause behind a sentence -/
theorem co_cl {m : Nat} (hm : m < 128) (hi : s.2.1 14 k 3 = nI ins) (hi2 : 1 ≤ ins ∧ ins ≤ 3) (hx : x < 129) (hy : y < 129) (h0 : s.2.1 17 k 0 = nI x - 1) (h1 : s.2.1 17 k 1 = nI y - 1) (hxy : (ins = 2 → 0 < x) ∧ (ins = 3 → 0 < x ∧ 0 < y)) :
    (goesL ins m x → coC s k (nI m) = reoC (stS s 17 k (ins - 1) (nI m)) k) ∧ (¬ goesL ins m x → coC s k (nI m) = stS (stS s 17 k (ins - 1) (nI m)) 14 k 2 (iteP (nulL ins m x y) 2 3)) := by
  have e1 : s.2.1 14 k 3 = 1 ↔ ins = 1 := by rw [hi]; exact nI_eq (b := 1) (by omega) (by decide)
  have e2 : s.2.1 14 k 3 = 2 ↔ ins = 2 := by rw [hi]; exact nI_eq (b := 2) (by omega) (by decide)
  have em : nI m = 0 ↔ m = 0 := n0 (by omega)
  have lx : 0 < x → (likeC (nI m) (s.2.1 17 k 0) ↔ likeL m (x - 1)) := fun q => by
    rw [h0, show nI x - 1 = nI (x - 1) from pk_sub (b := 1) (by omega)]
    exact like_cl hm (by omega)
  have ly : 0 < y → (likeC (nI m) (s.2.1 17 k 1) ↔ likeL m (y - 1)) := fun q => by
    rw [h1, show nI y - 1 = nI (y - 1) from pk_sub (b := 1) (by omega)]
    exact like_cl hm (by omega)
  have hi3 : ins = 1 ∨ ins = 2 ∨ ins = 3 := by omega
  unfold coC
  rcases hi3 with q | q | q
  · subst q
    rw [iteP_t (e1.mpr rfl)]
    unfold cfC goesL nulL goesL
    refine ⟨fun g => ?_, fun g => ?_⟩
    · rw [iteP_f (fun w => by have := em.mp w; omega)]
    · have m0 : m = 0 := by omega
      rw [iteP_t (em.mpr m0), iteP_f (fun w => by omega)]
  · subst q
    have l := lx (hxy.1 rfl)
    rw [iteP_f (fun w => absurd (e1.mp w) (by decide)), iteP_t (e2.mpr rfl)]
    unfold csC goesL nulL goesL
    refine ⟨fun g => ?_, fun g => ?_⟩
    · have g2 : ¬ likeL m (x - 1) := by
        rcases g with g | g
        · exact absurd g.1 (by decide)
        · exact g.2
      rw [iteP_f (fun w => g2 (l.mp w))]
    · have g2 : likeL m (x - 1) := Classical.byContradiction fun w => g (Or.inr ⟨rfl, w⟩)
      rw [iteP_t (l.mpr g2)]
      by_cases m0 : m = 0
      · rw [if_pos (em.mpr m0), iteP_f (fun w => by omega)]
      · rw [if_neg (fun w => m0 (em.mp w)), iteP_t ⟨g, by omega, Or.inl rfl⟩]
  · subst q
    have l := lx (hxy.2 rfl).1
    have l2 := ly (hxy.2 rfl).2
    rw [iteP_f (fun w => absurd (e1.mp w) (by decide)), iteP_f (fun w => absurd (e2.mp w) (by decide))]
    unfold ctC goesL nulL goesL
    refine ⟨fun g => by omega, fun g => ?_⟩
    congr 1
    by_cases c : ¬ nI m = 0 ∧ (likeC (nI m) (s.2.1 17 k 0) ∨ likeC (nI m) (s.2.1 17 k 1))
    · have c2 := c.2
      rw [l, l2] at c2
      rw [iteP_t c, iteP_t ⟨g, by have : ¬ m = 0 := fun w => c.1 (em.mpr w); omega, Or.inr ⟨rfl, c2⟩⟩]
    · rw [iteP_f c, iteP_f (fun w => c ⟨fun v => by have := em.mp v; omega, ?_⟩)]
      rw [l, l2]
      rcases w.2.2 with v | v
      · exact absurd v (by decide)
      · exact v.2
/-- the law behind a sentence is the class behind it -/
theorem sent_fin {m one oth pl lk vs la dy : Nat} (h : Rg t fa mo T (rows s) s) (hk : k < s.1 2) (hp : Cp t s k vw db st ins a b d x y z) (hst : st = 1) (hm : m < 128) (hv : Vp s vw one oth pl lk vs la) (hd : s.2.1 30 0 0 = nI dy) (hd2 : s.2.1 1 0 7 = nI dy) :
    Rl (t + 1) (seV (seG (seE (seS (coC s k (nI m)) k) k ins m x y z) k vw db ins (goesL ins m x) (nulL ins m x y)) vw one oth pl lk vs la (nulL ins m x y)) := by
  have hn := Rg_n h
  obtain ⟨q1, q2, q3, q4, q5, q6, q7, q8, q9, q10⟩ := hp
  have q11 := q10.1 (by omega)
  have cvw : cl (nI vw) = vw := clN (by omega)
  obtain ⟨c1, c2⟩ := co_cl (s := s) (k := k) (ins := ins) (x := x) (y := y) hm q3.2.2.2 ⟨q1.2.2.2.2.1, q1.2.2.2.2.2⟩ q2.2.2.2.1 q2.2.2.2.2.1 q7.1 q7.2.1 (by omega)
  have l1 : sx ins m x < 129 ∧ sy ins m y < 129 ∧ sz ins m z < 129 := by unfold sx sy sz; refine ⟨?_, ?_, ?_⟩ <;> (split <;> omega)
  -- the sentences, in class and law
  have e17 : ∀ w : Sg, (∀ c, w.2.1 17 k c = if c = ins - 1 then nI m else s.2.1 17 k c) → w.2.1 17 k 0 = nI (sx ins m x) - 1 ∧ w.2.1 17 k 1 = nI (sy ins m y) - 1 ∧ w.2.1 17 k 2 = nI (sz ins m z) - 1 := by
    intro w hw
    rw [hw, hw, hw]
    have i3 : ins = 1 ∨ ins = 2 ∨ ins = 3 := by omega
    unfold sx sy sz
    rcases i3 with q | q | q
    · subst q
      exact ⟨by rw [if_pos rfl, if_pos rfl, nI_pred], by rw [if_neg (by decide), if_neg (by decide)]; exact q7.2.1, by rw [if_neg (by decide), if_neg (by decide)]; exact q7.2.2⟩
    · subst q
      exact ⟨by rw [if_neg (by decide), if_neg (by decide)]; exact q7.1, by rw [if_pos rfl, if_pos rfl, nI_pred], by rw [if_neg (by decide), if_neg (by decide)]; exact q7.2.2⟩
    · subst q
      exact ⟨by rw [if_neg (by decide), if_neg (by decide)]; exact q7.1, by rw [if_neg (by decide), if_neg (by decide)]; exact q7.2.1, by rw [if_pos rfl, if_pos rfl, nI_pred]⟩
  by_cases hG : goesL ins m x
  · have hnn : ¬ nulL ins m x y := fun w => w.1 hG
    rw [c1 hG]
    unfold seV seG
    rw [iteP_f hnn, iteP_t hG]
    obtain ⟨C, hC⟩ : ∃ C, C = reoC (stS s 17 k (ins - 1) (nI m)) k := ⟨_, rfl⟩
    have C14 : ∀ c, ¬ c = 2 → ¬ c = 3 → C.2.1 14 k c = s.2.1 14 k c := fun c h2 h3 => by
      rw [hC]; unfold reoC
      rw [stI_get, if_neg (by omega), stS_get, if_neg (by omega), stS_get, if_neg (by omega), stS_get, if_neg (by omega)]
    have C142 : C.2.1 14 k 2 = 0 := by
      rw [hC]; unfold reoC
      rw [stI_get, if_neg (by omega), stS_get, if_pos ⟨rfl, rfl, rfl⟩]
    have C143 : C.2.1 14 k 3 = nI (ins + 1) := by
      rw [hC]; unfold reoC
      rw [stI_get, if_neg (by omega), stS_get, if_neg (by omega), stS_get, if_pos ⟨rfl, rfl, rfl⟩, stS_get, if_neg (by omega), q3.2.2.2, nIs]
    have C16 : ∀ c, c < 3 → C.2.1 16 k c = -1 := fun c hc => by
      rw [hC]; unfold reoC
      rw [stI_get, if_pos ⟨rfl, rfl, hc⟩]
    have C17 : ∀ c, C.2.1 17 k c = if c = ins - 1 then nI m else s.2.1 17 k c := fun c => by
      rw [hC]; unfold reoC
      rw [stI_get, if_neg (by omega), stS_get, if_neg (by omega), stS_get, if_neg (by omega), stS_get]
      simp
    have Co : ∀ a b c, ¬ (a = 14 ∧ b = k) → ¬ (a = 16 ∧ b = k) → ¬ (a = 17 ∧ b = k) → C.2.1 a b c = s.2.1 a b c := fun a b c h1 h2 h3 => by
      rw [hC]; unfold reoC
      rw [stI_get, if_neg (fun z => h2 ⟨z.1, z.2.1⟩), stS_get, if_neg (fun z => h1 ⟨z.1, z.2.1⟩), stS_get, if_neg (fun z => h1 ⟨z.1, z.2.1⟩), stS_get, if_neg (fun z => h3 ⟨z.1, z.2.1⟩)]
    have Cn : C.1 = s.1 := by rw [hC]; rfl
    rw [← hC]
    have hse : seS C k = C := by
      unfold seS
      rw [C142, iteP_f (by decide)]
    rw [hse]
    unfold seE
    obtain ⟨w, hw⟩ : ∃ w, w = stS (stS (stS C 29 0 k (nI (pk3 (sx ins m x) (sy ins m y) (sz ins m z)))) 26 0 k (nI (pkC vw db 0 (ins + 1)))) 28 0 k 0 := ⟨_, rfl⟩
    rw [← hw]
    have wC : ∀ a b c, a < 26 → w.2.1 a b c = C.2.1 a b c := fun a b c ha => by rw [hw, stS_get, if_neg (by omega), stS_get, if_neg (by omega), stS_get, if_neg (by omega)]
    have wn : w.1 = s.1 := by rw [hw]; exact Cn
    have w26 : w.2.1 26 0 k = nI (pkC vw db 0 (ins + 1)) := by rw [hw, stS_get, if_neg (by omega), stS_get, if_pos ⟨rfl, rfl, rfl⟩]
    have w28 : w.2.1 28 0 k = 0 := by rw [hw, stS_get, if_pos ⟨rfl, rfl, rfl⟩]
    have w29 : w.2.1 29 0 k = nI (pk3 (sx ins m x) (sy ins m y) (sz ins m z)) := by rw [hw, stS_get, if_neg (by omega), stS_get, if_neg (by omega), stS_get, if_pos ⟨rfl, rfl, rfl⟩]
    have wo : ∀ a b c, ¬ (a = 14 ∧ b = k) → ¬ (a = 16 ∧ b = k) → ¬ (a = 17 ∧ b = k) → ¬ (a = 26 ∧ c = k) → ¬ (a = 28 ∧ c = k) → ¬ (a = 29 ∧ c = k) → w.2.1 a b c = s.2.1 a b c := fun a b c h1 h2 h3 h4 h5 h6 => by
      rw [hw, stS_get, if_neg (by omega), stS_get, if_neg (by omega), stS_get, if_neg (by omega)]
      exact Co a b c h1 h2 h3
    have gi : ins = 1 ∨ ins = 2 := by unfold goesL at hG; omega
    refine Rl_of (fa := fa) (mo := mo) (T := T) (Rg_cs h wn (fun j => ?_) (fun a b c ha => wo _ _ _ (by omega) (by omega) (by omega) (by omega) (by omega) (by omega)) (RC_one h hk wn (fun a j c h1 h2 hj => wo _ _ _ (by omega) (by omega) (by omega) (by omega) (by omega) (by omega)) (fun j hj => wo _ _ _ (by omega) (by omega) (by omega) (by omega) (by omega) (by omega)) (fun j i _ hj => wo _ _ _ (by omega) (by omega) (by omega) (by omega) (by omega) (by omega)) (fun j hj => wo _ _ _ (by omega) (by omega) (by omega) (by omega) (by omega) (by omega)) (fun j hj => wo _ _ _ (by omega) (by omega) (by omega) (by omega) (by omega) (by omega)) ?_))
    · by_cases e : j = k
      · rw [e, wC 14 k 0 (by decide)]; exact C14 0 (by decide) (by decide)
      · exact wo _ _ _ (by omega) (by omega) (by omega) (by omega) (by omega) (by omega)
    · refine ⟨vw, db, 0, ins + 1, 0, 0, 0, _, _, _, ⟨by rw [wn]; exact q1.1, q1.2.1, q1.2.2.1, by decide, by omega, by omega⟩, ⟨by decide, by decide, by decide, l1.1, l1.2.1, l1.2.2⟩, ⟨?_, ?_, ?_, ?_⟩, w26, ⟨?_, ?_, ?_⟩, w28, e17 w (fun c => (wC 17 k c (by decide)).trans (C17 c)), w29, fun j hj => ?_, fun _ => ?_, fun v => absurd v (by decide)⟩
      · rw [wC _ _ _ (by decide), C14 0 (by decide) (by decide)]; exact q3.1
      · rw [wC _ _ _ (by decide), C14 1 (by decide) (by decide)]; exact q3.2.1
      · rw [wC _ _ _ (by decide), C142]; rfl
      · rw [wC _ _ _ (by decide)]; exact C143
      · rw [wC _ _ _ (by decide)]; exact C16 0 (by decide)
      · rw [wC _ _ _ (by decide)]; exact C16 1 (by decide)
      · rw [wC _ _ _ (by decide)]; exact C16 2 (by decide)
      · have v := q9 j hj
        show w.2.1 27 0 (7 * k + j) = w.2.1 15 k j ∧ -(10 * ((t + 1 : Nat) : Int)) ≤ (w.2.1 15 k j).toInt ∧ (w.2.1 15 k j).toInt ≤ 10 * ((t + 1 : Nat) : Int)
        rw [wo 27 0 _ (by omega) (by omega) (by omega) (by omega) (by omega) (by omega), wo 15 k j (by omega) (by omega) (by omega) (by omega) (by omega) (by omega)]
        exact ⟨v.1, by omega, by omega⟩
      · unfold sx sy sz
        rcases gi with rfl | rfl
        · exact Or.inr (Or.inl (by rw [if_pos rfl, if_neg (by decide), if_neg (by decide)]; omega))
        · exact Or.inr (Or.inr (by rw [if_neg (by decide), if_pos rfl, if_neg (by decide)]; omega))
  · rw [c2 hG]
    -- the cause alone
    have cs : ∀ st2 : Nat, (st2 = 2 ∨ st2 = 3) → ∀ w : Sg, w = stS (stS (stS (stS s 17 k (ins - 1) (nI m)) 14 k 2 (nI st2)) 29 0 k (nI (pk3 (sx ins m x) (sy ins m y) (sz ins m z)))) 26 0 k (nI (pkC vw db st2 ins)) → Rg (t + 1) fa mo T (rows w) w := by
      intro st2 h2 w hw
      have wn : w.1 = s.1 := by rw [hw]; rfl
      have w26 : w.2.1 26 0 k = nI (pkC vw db st2 ins) := by rw [hw, stS_get, if_pos ⟨rfl, rfl, rfl⟩]
      have w29 : w.2.1 29 0 k = nI (pk3 (sx ins m x) (sy ins m y) (sz ins m z)) := by rw [hw, stS_get, if_neg (by omega), stS_get, if_pos ⟨rfl, rfl, rfl⟩]
      have w142 : w.2.1 14 k 2 = nI st2 := by rw [hw, stS_get, if_neg (by omega), stS_get, if_neg (by omega), stS_get, if_pos ⟨rfl, rfl, rfl⟩]
      have w17 : ∀ c, w.2.1 17 k c = if c = ins - 1 then nI m else s.2.1 17 k c := fun c => by
        rw [hw, stS_get, if_neg (by omega), stS_get, if_neg (by omega), stS_get, if_neg (by omega), stS_get]
        simp
      have wo : ∀ a b c, ¬ (a = 14 ∧ b = k ∧ c = 2) → ¬ (a = 17 ∧ b = k) → ¬ (a = 26 ∧ c = k) → ¬ (a = 29 ∧ c = k) → w.2.1 a b c = s.2.1 a b c := fun a b c h1 h3 h4 h6 => by
        rw [hw, stS_get, if_neg (by omega), stS_get, if_neg (by omega), stS_get, if_neg (by omega), stS_get, if_neg (by omega)]
      refine Rg_cs h wn (fun j => wo _ _ _ (by omega) (by omega) (by omega) (by omega)) (fun a b c ha => wo _ _ _ (by omega) (by omega) (by omega) (by omega)) (RC_one h hk wn (fun a j c h1 h2 hj => wo _ _ _ (by omega) (by omega) (by omega) (by omega)) (fun j hj => wo _ _ _ (by omega) (by omega) (by omega) (by omega)) (fun j i _ hj => wo _ _ _ (by omega) (by omega) (by omega) (by omega)) (fun j hj => wo _ _ _ (by omega) (by omega) (by omega) (by omega)) (fun j hj => wo _ _ _ (by omega) (by omega) (by omega) (by omega)) ?_)
      refine ⟨vw, db, st2, ins, a, b, d, _, _, _, ⟨by rw [wn]; exact q1.1, q1.2.1, q1.2.2.1, by omega, q1.2.2.2.2⟩, ⟨q2.1, q2.2.1, q2.2.2.1, l1.1, l1.2.1, l1.2.2⟩, ⟨?_, ?_, w142, ?_⟩, w26, ⟨?_, ?_, ?_⟩, ?_, e17 w w17, w29, fun j hj => ?_, fun v => by omega, fun _ => ?_⟩
      · rw [wo 14 k 0 (by omega) (by omega) (by omega) (by omega)]; exact q3.1
      · rw [wo 14 k 1 (by omega) (by omega) (by omega) (by omega)]; exact q3.2.1
      · rw [wo 14 k 3 (by omega) (by omega) (by omega) (by omega)]; exact q3.2.2.2
      · rw [wo 16 k 0 (by omega) (by omega) (by omega) (by omega)]; exact q5.1
      · rw [wo 16 k 1 (by omega) (by omega) (by omega) (by omega)]; exact q5.2.1
      · rw [wo 16 k 2 (by omega) (by omega) (by omega) (by omega)]; exact q5.2.2
      · exact (wo 28 0 k (by omega) (by omega) (by omega) (by omega)).trans q6
      · have v := q9 j hj
        show w.2.1 27 0 (7 * k + j) = w.2.1 15 k j ∧ -(10 * ((t + 1 : Nat) : Int)) ≤ (w.2.1 15 k j).toInt ∧ (w.2.1 15 k j).toInt ≤ 10 * ((t + 1 : Nat) : Int)
        rw [wo 27 0 _ (by omega) (by omega) (by omega) (by omega), wo 15 k j (by omega) (by omega) (by omega) (by omega)]
        exact ⟨v.1, by omega, by omega⟩
      · unfold sx sy sz
        rcases q11 with v | v | v
        · rw [if_pos v.1, if_neg (by omega), if_neg (by omega)]
          exact ⟨by omega, fun _ => v.2.2⟩
        · rw [if_neg (by omega)]
          exact ⟨by omega, fun u => by omega⟩
        · rw [if_neg (by omega)]
          exact ⟨by omega, fun u => by omega⟩
    by_cases hnu : nulL ins m x y
    · rw [iteP_t hnu]
      unfold seV seG
      rw [iteP_t hnu, iteP_f hG, iteP_t hnu]
      have hse : seS (stS (stS s 17 k (ins - 1) (nI m)) 14 k 2 2) k = stS (stS (stS (stS s 17 k (ins - 1) (nI m)) 14 k 2 2) 13 vw 6 1) 13 vw 7 (nI dy) := by
        unfold seS
        have e1 : (stS (stS s 17 k (ins - 1) (nI m)) 14 k 2 2).2.1 14 k 2 = 2 := if_pos ⟨rfl, rfl, rfl⟩
        have e2 : (stS (stS s 17 k (ins - 1) (nI m)) 14 k 2 2).2.1 14 k 0 = nI vw := by rw [stS_get, if_neg (by omega), stS_get, if_neg (by omega)]; exact q3.1
        have e3 : (stS (stS s 17 k (ins - 1) (nI m)) 14 k 2 2).2.1 1 0 7 = nI dy := hd2
        rw [iteP_t e1, e2, e3, cvw]
      rw [hse]
      obtain ⟨w, hw⟩ : ∃ w, w = stS (stS (stS (stS s 17 k (ins - 1) (nI m)) 14 k 2 (nI 2)) 29 0 k (nI (pk3 (sx ins m x) (sy ins m y) (sz ins m z)))) 26 0 k (nI (pkC vw db 2 ins)) := ⟨_, rfl⟩
      have g := cs 2 (Or.inl rfl) w hw
      have hvw : Vp w vw one oth pl lk vs la := by
        rw [hw]
        exact hv
      have gt := Rg_turn0 (s := w) (k := vw) (w := 1) (d := dy) g (by rw [hw]; exact q1.1) (by decide) hvw (by rw [hw]; exact hd)
      have ez : chV one oth pl lk vs la 1 (stS (seE (stS (stS (stS (stS s 17 k (ins - 1) (nI m)) 14 k 2 2) 13 vw 6 1) 13 vw 7 (nI dy)) k ins m x y z) 26 0 k (nI (pkC vw db 2 ins))) vw = stS (stS (chV one oth pl lk vs la 1 w vw) 13 vw 6 (nI 1)) 13 vw 7 (nI dy) := by
        rw [hw]
        unfold chV seE
        refine Sg_ext rfl (fun a b c => ?_) rfl
        simp only [stS_get]
        by_cases h13 : a = 13
        · subst h13
          simp
          rfl
        · simp [h13]
          rfl
      rw [ez]
      exact Rl_of gt
    · rw [iteP_f hnu]
      unfold seV seG
      rw [iteP_f hnu, iteP_f hG, iteP_f hnu]
      have hse : seS (stS (stS s 17 k (ins - 1) (nI m)) 14 k 2 3) k = stS (stS s 17 k (ins - 1) (nI m)) 14 k 2 3 := by
        unfold seS
        have e1 : (stS (stS s 17 k (ins - 1) (nI m)) 14 k 2 3).2.1 14 k 2 = 3 := if_pos ⟨rfl, rfl, rfl⟩
        rw [e1, iteP_f (by decide)]
      rw [hse]
      exact Rl_of (cs 3 (Or.inr rfl) _ rfl)
end Do6

