/-! the calls: causes -/
section Do4
variable {t : Nat} {fa mo : Nat → Nat} {T : Nat → Nat → Nat} {s s' : Sg} {X : Xt} {k : Nat}
def Cp (t : Nat) (s : Sg) (k vw db st ins a b d x y z : Nat) : Prop := (vw < s.1 1 ∧ 0 < db ∧ db < 128 ∧ st < 4 ∧ 1 ≤ ins ∧ ins ≤ 3) ∧ (a < 129 ∧ b < 129 ∧ d < 129 ∧ x < 129 ∧ y < 129 ∧ z < 129) ∧
  (s.2.1 14 k 0 = nI vw ∧ s.2.1 14 k 1 = nI db ∧ s.2.1 14 k 2 = nI st ∧ s.2.1 14 k 3 = nI ins) ∧ s.2.1 26 0 k = nI (pkC vw db st ins) ∧ (s.2.1 16 k 0 = nI a - 1 ∧ s.2.1 16 k 1 = nI b - 1 ∧ s.2.1 16 k 2 = nI d - 1) ∧ s.2.1 28 0 k = nI (pk3 a b d) ∧
  (s.2.1 17 k 0 = nI x - 1 ∧ s.2.1 17 k 1 = nI y - 1 ∧ s.2.1 17 k 2 = nI z - 1) ∧ s.2.1 29 0 k = nI (pk3 x y z) ∧ (∀ j, j < 7 → s.2.1 27 0 (7 * k + j) = s.2.1 15 k j ∧ -(10 * (t : Int)) ≤ (s.2.1 15 k j).toInt ∧ (s.2.1 15 k j).toInt ≤ 10 * (t : Int)) ∧
  (st < 2 → (ins = 1 ∧ x = 0 ∧ y = 0 ∧ z = 0) ∨ (ins = 2 ∧ 0 < x ∧ y = 0 ∧ z = 0) ∨ (ins = 3 ∧ 0 < x ∧ 0 < y ∧ z = 0)) ∧ (2 ≤ st → 0 < x ∧ (ins = 1 → y = 0 ∧ z = 0))
theorem Rg_c (h : Rg t fa mo T (rows s) s) (hk : k < s.1 2) : ∃ vw db st ins a b d x y z : Nat, Cp t s k vw db st ins a b d x y z := h.2.2.2.1.1 k hk
theorem Cp_cR {vw db st ins a b d x y z : Nat} (hn : s.1 1 ≤ 16) (h : Cp t s k vw db st ins a b d x y z) : cR s k vw db st ins := ⟨⟨by have := h.1.1; omega, h.1.2.2.1, h.1.2.2.2.1, by have := h.1.2.2.2.2; omega⟩, h.2.2.2.1⟩
/-- causes are others -/
theorem Rg_cs (h : Rg t fa mo T (rows s) s) (hn : s'.1 = s.1) (e0 : ∀ a, s'.2.1 14 a 0 = s.2.1 14 a 0) (eo : ∀ a b c, (a < 14 ∨ (17 < a ∧ (a < 26 ∨ 29 < a))) → s'.2.1 a b c = s.2.1 a b c) (hC : RC (t + 1) (rows s') s') : Rg (t + 1) fa mo T (rows s') s' := by
  obtain ⟨h0, hP, h2, h3, h4, h5, h6⟩ := Rg_mono (t2 := t + 1) (Nat.le_succ t) h
  have hn16 := h0.2.2.2.1
  exact ⟨R0_fr (r := rows s) (s := s) hn (fun _ => eo _ _ _ (by decide)) (fun _ => eo _ _ _ (by decide)) e0 (eo _ _ _ (by decide)) (fun _ => eo _ _ _ (by decide)) h0, RPe_fr (r := rows s) (s := s) (by rw [hn]) (fun _ _ => eo _ _ _ (by decide)) (fun _ _ => eo _ _ _ (by decide)) (fun _ _ => eo _ _ _ (by decide)) hn16.1 hP,
    RV_fr (r := rows s) (s := s) (by rw [hn]) (by rw [hn]) (fun _ _ => eo _ _ _ (by decide)) (fun _ => eo _ _ _ (by decide)) (fun _ _ => eo _ _ _ (by decide)) (fun _ => eo _ _ _ (by decide)) hn16.2.1 h2,
    hC, RF9_fr (r := rows s) (s := s) (fun _ _ => eo _ _ _ (by decide)) (fun _ => eo _ _ _ (by decide)) (fun _ => eo _ _ _ (by decide)) h4, RD_fr (r := rows s) (s := s) (fun _ _ => eo _ _ _ (by decide)) (fun _ => eo _ _ _ (by decide)) h5, RS_fr (s := s) (by rw [hn]) (fun _ _ => eo _ _ _ (by decide)) h6⟩
/-- one cause is another -/
theorem RC_one (h : Rg t fa mo T (rows s) s) (hk : k < s.1 2) (hn : s'.1 = s.1) (o : ∀ a j c, 14 ≤ a → a ≤ 17 → ¬ j = k → s'.2.1 a j c = s.2.1 a j c) (o26 : ∀ j, ¬ j = k → s'.2.1 26 0 j = s.2.1 26 0 j) (o27 : ∀ j i, i < 7 → ¬ j = k → s'.2.1 27 0 (7 * j + i) = s.2.1 27 0 (7 * j + i))
    (o28 : ∀ j, ¬ j = k → s'.2.1 28 0 j = s.2.1 28 0 j) (o29 : ∀ j, ¬ j = k → s'.2.1 29 0 j = s.2.1 29 0 j) (h1 : C1 (t + 1) (rows s') s' k) : RC (t + 1) (rows s') s' := by
  have h3 := (Rg_mono (t2 := t + 1) (Nat.le_succ t) h).2.2.2.1
  refine ⟨fun j hj => ?_, fun j hj hj2 => ?_⟩
  · rw [hn] at hj
    by_cases e : j = k
    · rw [e]; exact h1
    · obtain ⟨vw, db, st, ins, a, b, d, x, y, z, q1, q2, q3, q4, q5, q6, q7, q8, q9, q10⟩ := h3.1 j hj
      refine ⟨vw, db, st, ins, a, b, d, x, y, z, by rw [hn]; exact q1, q2, by rw [o 14 j 0 (by decide) (by decide) e, o 14 j 1 (by decide) (by decide) e, o 14 j 2 (by decide) (by decide) e, o 14 j 3 (by decide) (by decide) e]; exact q3, (o26 j e).trans q4, by rw [o 16 j 0 (by decide) (by decide) e, o 16 j 1 (by decide) (by decide) e, o 16 j 2 (by decide) (by decide) e]; exact q5, (o28 j e).trans q6,
        by rw [o 17 j 0 (by decide) (by decide) e, o 17 j 1 (by decide) (by decide) e, o 17 j 2 (by decide) (by decide) e]; exact q7, (o29 j e).trans q8, fun i hi => ?_, q10⟩
      rw [o 15 j i (by decide) (by decide) e]
      exact ⟨(o27 j i hi e).trans (q9 i hi).1, (q9 i hi).2⟩
  · rw [hn] at hj
    obtain ⟨w1, w2, w3⟩ := h3.2 j hj hj2
    exact ⟨(o28 j (by omega)).trans w1, (o29 j (by omega)).trans w2, fun i hi => (o27 j i hi (by omega)).trans (w3 i hi)⟩
variable {vw db st ins a b d x y z : Nat}
theorem doub_1 {c : Int32} (hR : Rl t s) (hk : ¬ k < s.1 2) (hk2 : k < 100) : sp_L_does [aR 1 0, aI 14, aI (nI k), aI c, aI 0, aI 0] s (Dn (-3000000) t) X :=
  do_14 ⟨Rl_CI hR, fun _ => ⟨rfl, hR⟩, fun z => absurd ((iCs hR (by decide) hk2).mp z) hk⟩
theorem doub_2 {c : Nat} (hR : Rl t s) (hk : k < s.1 2) (hc : c < 1000) (hc2 : ¬ (0 < c ∧ c < 128)) : sp_L_does [aR 1 0, aI 14, aI (nI k), aI (nI c), aI 0, aI 0] s (Dn (-2000000) t) X := by
  have := Rl_n hR
  exact do_14 ⟨Rl_CI hR, fun z => absurd ((iCs hR (by decide) (by omega)).mpr hk) z, fun _ => ⟨fun _ => ⟨rfl, hR⟩, fun z => absurd (⟨(nI_leI (a := 1) (by decide) (by omega)).mp z.1, Nat.lt_succ_of_le ((nI_leI (b := 127) (by omega) (by decide)).mp z.2)⟩ : 0 < c ∧ c < 128) hc2⟩⟩
theorem doub_3 {c : Nat} (hR : Rl t s) (hk : k < s.1 2) (hc : 0 < c ∧ c < 128) (hc2 : ¬ (s.2.1 14 k 2 = 0 ∧ s.2.1 14 k 3 = 1)) : sp_L_does [aR 1 0, aI 14, aI (nI k), aI (nI c), aI 0, aI 0] s (Dn (-1000000) t) X := by
  have := Rl_n hR
  refine do_14 ⟨Rl_CI hR, fun z => absurd ((iCs hR (by decide) (by omega)).mpr hk) z, fun _ => ⟨fun z => absurd ⟨(nI_leI (a := 1) (by decide) (by omega)).mpr hc.1, (nI_leI (b := 127) (by omega) (by decide)).mpr (by omega)⟩ z, fun _ => ?_⟩⟩
  rw [clN (by omega)]
  exact ⟨fun _ => ⟨rfl, hR⟩, fun z => absurd z hc2⟩
theorem doub_0 {c : Nat} (h : Rg t fa mo T (rows s) s) (hk : k < s.1 2) (hc : 0 < c ∧ c < 128) (hp : Cp t s k vw db st ins a b d x y z) (hst : st = 0) (hin : ins = 1) : sp_L_does [aR 1 0, aI 14, aI (nI k), aI (nI c), aI 0, aI 0] (stS s 26 0 k (nI (pkC vw c st ins))) (Dn (nI db) (t + 1)) X := by
  have hn := Rg_n h
  have ck : cl (nI k) = k := clN (by omega)
  obtain ⟨q1, q2, q3, q4, q5, q6, q7, q8, q9, q10⟩ := hp
  have hcan : s.2.1 14 k 2 = 0 ∧ s.2.1 14 k 3 = 1 := by
    rw [q3.2.2.1, q3.2.2.2, hst, hin]; exact ⟨rfl, rfl⟩
  refine do_14 ⟨Rg_CI h, fun z => absurd ((iC_N (s := s) (k := 2) (by omega) (by omega)).mpr hk) z, fun _ => ⟨fun z => absurd ⟨(nI_leI (a := 1) (by decide) (by omega)).mpr hc.1, (nI_leI (b := 127) (by omega) (by decide)).mpr (by omega)⟩ z, fun _ => ?_⟩⟩
  rw [ck]
  refine ⟨fun z => absurd hcan z, fun _ => ⟨congrArg (fun z => some (aI z)) q3.2.1, ?_⟩⟩
  refine Rl_of (fa := fa) (mo := mo) (T := T) (Rg_cs h rfl (fun j => by rw [stS_get, if_neg (by omega)]; rfl) (fun a b c ha => by rw [stS_get, if_neg (by omega), stS_get, if_neg (by omega)]) (RC_one h hk rfl (fun a j c h1 h2 hj => by rw [stS_get, if_neg (by omega), stS_get, if_neg (by omega)]) (fun j hj => by rw [stS_get, if_neg (by omega), stS_get, if_neg (by omega)]) (fun j i _ hj => rfl) (fun j hj => rfl) (fun j hj => rfl) ?_))
  refine ⟨vw, c, st, ins, a, b, d, x, y, z, ⟨q1.1, hc.1, hc.2, q1.2.2.2⟩, q2, ?_, ?_, q5, q6, q7, q8, fun j hj => ?_, q10⟩
  · simpa [stS_get] using ⟨q3.1, q3.2.2⟩
  · simp [stS_get]
  · have w := q9 j hj
    refine ⟨w.1, ?_, ?_⟩
    · show -(10 * ((t + 1 : Nat) : Int)) ≤ (s.2.1 15 k j).toInt
      omega
    · show (s.2.1 15 k j).toInt ≤ 10 * ((t + 1 : Nat) : Int)
      omega
theorem proo_1 {g w : Int32} (hR : Rl t s) (hk : ¬ k < s.1 2) (hk2 : k < 100) : sp_L_does [aR 1 0, aI 15, aI (nI k), aI g, aI w, aI 0] s (Dn (-3000000) t) X :=
  do_15 ⟨Rl_CI hR, fun _ => ⟨rfl, hR⟩, fun z => absurd ((iCs hR (by decide) hk2).mp z) hk⟩
theorem proo_2 {g : Nat} {w : Int32} (hR : Rl t s) (hk : k < s.1 2) (hg : g < 100) (hc : ¬ (g < 7 ∧ -10 ≤ w ∧ w ≤ 10)) : sp_L_does [aR 1 0, aI 15, aI (nI k), aI (nI g), aI w, aI 0] s (Dn (-2000000) t) X := by
  have := Rl_n hR
  refine do_15 ⟨Rl_CI hR, fun z => absurd ((iCs hR (by decide) (by omega)).mpr hk) z, fun _ => ⟨fun _ => ⟨rfl, hR⟩, fun z => ⟨fun _ => ⟨rfl, hR⟩, fun z2 => absurd ⟨(rgN (b := 7) (by omega) (by decide)).mp z, z2⟩ hc⟩⟩⟩
theorem proo_3 {g : Nat} {w : Int32} (hR : Rl t s) (hk : k < s.1 2) (hg : g < 7) (hw : -10 ≤ w ∧ w ≤ 10) (hc : ¬ (s.2.1 14 k 2 = 0 ∧ ¬ s.2.1 14 k 1 &&& (1 <<< (nI g &&& 31)) = 0)) : sp_L_does [aR 1 0, aI 15, aI (nI k), aI (nI g), aI w, aI 0] s (Dn (-1000000) t) X := by
  have := Rl_n hR
  refine do_15 ⟨Rl_CI hR, fun z => absurd ((iCs hR (by decide) (by omega)).mpr hk) z, fun _ => ⟨fun z => absurd ((rgN (b := 7) (by omega) (by decide)).mpr hg) z, fun _ => ⟨fun z => absurd hw z, fun _ => ?_⟩⟩⟩
  rw [clN (by omega)]
  exact ⟨fun _ => ⟨rfl, hR⟩, fun z => absurd z hc⟩
theorem proo_0 {g : Nat} {w : Int32} (ht : t < 64) (h : Rg t fa mo T (rows s) s) (hk : k < s.1 2) (hg : g < 7) (hw : -10 ≤ w ∧ w ≤ 10) (hp : Cp t s k vw db st ins a b d x y z) (hst : st = 0) (hb : db / 2 ^ g % 2 = 1) :
    sp_L_does [aR 1 0, aI 15, aI (nI k), aI (nI g), aI w, aI 0] (stS s 27 0 (7 * k + g) (s.2.1 27 0 (7 * k + g) + w)) (Dnr (s.2.1 27 0 (7 * k + g) + w) (t + 1) 27 (7 * k + g) (s.2.1 27 0 (7 * k + g) + w)) X := by
  have hn := Rg_n h
  have ck : cl (nI k) = k := clN (by omega)
  have cg : cl (nI g) = g := clN (by omega)
  obtain ⟨q1, q2, q3, q4, q5, q6, q7, q8, q9, q10⟩ := hp
  have hcan : s.2.1 14 k 2 = 0 ∧ ¬ s.2.1 14 k 1 &&& (1 <<< (nI g &&& 31)) = 0 := by
    refine ⟨by rw [q3.2.2.1, hst]; rfl, ?_⟩
    rw [q3.2.1, Int32.and_comm, shl_and hg q1.2.2.1, if_pos hb]
    intro z
    have := (n0 (j := 2 ^ g) (by have := Nat.pow_lt_pow_right (show 1 < 2 by decide) hg; omega)).mp z
    have := Nat.pow_pos (n := g) (show 0 < 2 by decide)
    omega
  obtain ⟨w1, w2, w3⟩ := q9 g hg
  have wl : (-10 : Int) ≤ w.toInt ∧ w.toInt ≤ 10 := by
    rw [Int32.le_iff_toInt_le, Int32.le_iff_toInt_le] at hw
    exact hw
  have ws : (s.2.1 15 k g + w).toInt = (s.2.1 15 k g).toInt + w.toInt := by
    rw [Int32.toInt_add]
    exact Int.bmod_eq_of_le (by omega) (by omega)
  have epw : pwC (stS s 27 0 (7 * k + g) (s.2.1 27 0 (7 * k + g) + w)) (nI k) (nI g) w = s.2.1 15 k g + w := by
    unfold pwC
    rw [ck, cg]
    rfl
  have hrg : -1000 ≤ s.2.1 15 k g + w ∧ s.2.1 15 k g + w ≤ 1000 := by
    rw [Int32.le_iff_toInt_le, Int32.le_iff_toInt_le, ws]
    have e1 : (-1000 : Int32).toInt = -1000 := rfl
    have e2 : (1000 : Int32).toInt = 1000 := rfl
    omega
  refine do_15 ⟨Rg_CI h, fun z => absurd ((iC_N (s := s) (k := 2) (by omega) (by omega)).mpr hk) z, fun _ => ⟨fun z => absurd ((rgN (b := 7) (by omega) (by decide)).mpr hg) z, fun _ => ⟨fun z => absurd hw z, fun _ => ?_⟩⟩⟩
  rw [epw, ck, cg]
  refine ⟨fun z => absurd hcan z, fun _ => ⟨fun z => absurd hrg z, fun _ => ⟨congrArg (fun z => some (aI (z + w))) w1.symm, ?_, ?_⟩⟩⟩
  rotate_left
  · rw [stS_get, if_neg (by omega), stS_get, if_pos ⟨rfl, rfl, rfl⟩]
  refine Rl_of (fa := fa) (mo := mo) (T := T) (Rg_cs h rfl (fun j => rfl) (fun a b c ha => by rw [stS_get, if_neg (by omega), stS_get, if_neg (by omega)]) (RC_one h hk rfl (fun a j c h1 h2 hj => by rw [stS_get, if_neg (by omega), stS_get, if_neg (by omega)]) (fun j hj => rfl) (fun j i hi hj => by rw [stS_get, if_neg (by omega), stS_get, if_neg (by omega)]) (fun j hj => rfl) (fun j hj => rfl) ?_))
  refine ⟨vw, db, st, ins, a, b, d, x, y, z, q1, q2, q3, q4, q5, q6, q7, q8, fun j hj => ?_, q10⟩
  show (stS (stS s 27 0 (7 * k + g) (s.2.1 27 0 (7 * k + g) + w)) 15 k g (s.2.1 15 k g + w)).2.1 27 0 (7 * k + j) = (stS (stS s 27 0 (7 * k + g) (s.2.1 27 0 (7 * k + g) + w)) 15 k g (s.2.1 15 k g + w)).2.1 15 k j ∧ -(10 * ((t + 1 : Nat) : Int)) ≤ ((stS (stS s 27 0 (7 * k + g) (s.2.1 27 0 (7 * k + g) + w)) 15 k g (s.2.1 15 k g + w)).2.1 15 k j).toInt ∧ ((stS (stS s 27 0 (7 * k + g) (s.2.1 27 0 (7 * k + g) + w)) 15 k g (s.2.1 15 k g + w)).2.1 15 k j).toInt ≤ 10 * ((t + 1 : Nat) : Int)
  by_cases e : j = g
  · subst e
    rw [stS_get, if_neg (by omega), stS_get, if_pos ⟨rfl, rfl, rfl⟩, stS_get, if_pos ⟨rfl, rfl, rfl⟩, ws, w1]
    exact ⟨rfl, by omega, by omega⟩
  · obtain ⟨v1, v2, v3⟩ := q9 j hj
    rw [stS_get, if_neg (by omega), stS_get, if_neg (by omega), stS_get, if_neg (by omega), stS_get, if_neg (by omega)]
    exact ⟨v1, by omega, by omega⟩
theorem publ_1 (hR : Rl t s) (hk : ¬ k < s.1 2) (hk2 : k < 100) : sp_L_does [aR 1 0, aI 16, aI (nI k), aI 0, aI 0, aI 0] s (Dn (-3000000) t) X :=
  do_16 ⟨Rl_CI hR, fun _ => ⟨rfl, hR⟩, fun z => absurd ((iCs hR (by decide) hk2).mp z) hk⟩
theorem publ_3 (hR : Rl t s) (hk : k < s.1 2) (hc : ¬ s.2.1 14 k 2 = 0) : sp_L_does [aR 1 0, aI 16, aI (nI k), aI 0, aI 0, aI 0] s (Dn (-1000000) t) X := by
  have := Rl_n hR
  refine do_16 ⟨Rl_CI hR, fun z => absurd ((iCs hR (by decide) (by omega)).mpr hk) z, fun _ => ?_⟩
  rw [clN (by omega)]
  exact ⟨fun _ => ⟨rfl, hR⟩, fun z => absurd z hc⟩
theorem prC_cl (hp : Cp t s k vw db st ins a b d x y z) : prC s k = prL (fun j => s.2.1 27 0 (7 * k + j)) db 7 := by
  unfold prC
  rw [hp.2.2.1.2.1]
  exact pr_cl hp.1.2.2.1 7 (Nat.le_refl _) (fun j hj => (hp.2.2.2.2.2.2.2.2.1 j hj).1.symm)
theorem publ_0 (h : Rg t fa mo T (rows s) s) (hk : k < s.1 2) (hp : Cp t s k vw db st ins a b d x y z) (hst : st = 0) : sp_L_does [aR 1 0, aI 16, aI (nI k), aI 0, aI 0, aI 0] (stS s 26 0 k (nI (pkC vw db 1 ins))) (fun v s2 => v = some (aI (prL (fun j => s.2.1 27 0 (7 * k + j)) db 7)) ∧ Rl (t + 1) s2 ∧ (∀ j, s2.2.1 27 0 j = s.2.1 27 0 j) ∧ s2.2.1 26 0 k = nI (pkC vw db 1 ins)) X := by
  have hn := Rg_n h
  have ck : cl (nI k) = k := clN (by omega)
  have epr := prC_cl hp
  obtain ⟨q1, q2, q3, q4, q5, q6, q7, q8, q9, q10⟩ := hp
  have hcan : s.2.1 14 k 2 = 0 := by rw [q3.2.2.1, hst]; rfl
  refine do_16 ⟨Rg_CI h, fun z => absurd ((iC_N (s := s) (k := 2) (by omega) (by omega)).mpr hk) z, fun _ => ?_⟩
  rw [ck]
  have epr2 : prC (stS (stS s 26 0 k (nI (pkC vw db 1 ins))) 14 k 2 1) k = prL (fun j => s.2.1 27 0 (7 * k + j)) db 7 := by
    rw [← epr]
    unfold prC
    have e1 : (stS (stS s 26 0 k (nI (pkC vw db 1 ins))) 14 k 2 1).2.1 14 k 1 = s.2.1 14 k 1 := by rw [stS_get, if_neg (by omega)]; rfl
    rw [e1]
    rfl
  refine ⟨fun z => absurd hcan z, fun _ => ⟨congrArg (fun z => some (aI z)) epr2, ?_, fun j => by rw [stS_get, if_neg (by omega), stS_get, if_neg (by omega)], by rw [stS_get, if_neg (by omega), stS_get, if_pos ⟨rfl, rfl, rfl⟩]⟩⟩
  refine Rl_of (fa := fa) (mo := mo) (T := T) (Rg_cs h rfl (fun j => by rw [stS_get, if_neg (by omega)]; rfl) (fun a b c ha => by rw [stS_get, if_neg (by omega), stS_get, if_neg (by omega)]) (RC_one h hk rfl (fun a j c h1 h2 hj => by rw [stS_get, if_neg (by omega), stS_get, if_neg (by omega)]) (fun j hj => by rw [stS_get, if_neg (by omega), stS_get, if_neg (by omega)]) (fun j i _ hj => rfl) (fun j hj => rfl) (fun j hj => rfl) ?_))
  refine ⟨vw, db, 1, ins, a, b, d, x, y, z, ⟨q1.1, q1.2.1, q1.2.2.1, by decide, q1.2.2.2.2⟩, q2, ?_, ?_, q5, q6, q7, q8, fun j hj => ?_, fun _ => q10.1 (by omega), fun z => absurd z (by decide)⟩
  · refine ⟨?_, ?_, ?_, ?_⟩
    · rw [stS_get, if_neg (by omega)]; exact q3.1
    · rw [stS_get, if_neg (by omega)]; exact q3.2.1
    · simp [stS_get]; rfl
    · rw [stS_get, if_neg (by omega)]; exact q3.2.2.2
  · simp [stS_get]
  · have w := q9 j hj
    refine ⟨w.1, ?_, ?_⟩
    · show -(10 * ((t + 1 : Nat) : Int)) ≤ (s.2.1 15 k j).toInt
      omega
    · show (s.2.1 15 k j).toInt ≤ 10 * ((t + 1 : Nat) : Int)
      omega
end Do4

