/-! the law's main: one step of its loop -/
section Mn2
variable {X : Xt} {Z : Kt} {s : Sg} {t k w a b : Nat}
abbrev lW (k w a b : Nat) : LC := lM ++ [(13, .inl 1), (14, .inl (nI k)), (15, .inl (nI w)), (16, .inl (nI a)), (17, .inl (nI b))]
theorem pa_cl {x y : Int32} {j m : Nat} (hx : x = nI j) (hj : j < 2 ^ 30) (hm : 0 < m ∧ m < 2 ^ 31) (hy : y = nI m) : sp_L_part [aR 74 0, aI x, aI y] s (fun r s' => s' = s ∧ ∃ a, a < m ∧ r = some (aI (nI a))) X :=
  ⟨by rw [hx]; exact nI_pos (by omega), m, hm.1, hm.2, hy, fun a ha => ⟨rfl, a, ha, rfl⟩⟩
set_option maxRecDepth 100000 in
set_option maxHeartbeats 4000000 in
theorem m_659 {u : Nat} (run : Rn tab_L_law 40000 FN FX Z) (hk : k < 64) (ha : a < 60000) (hb : b < 60000) (h : Rl (k + 1) s) (hu : u ≤ 184 + 486 * k + 36)
    (nx : ∀ u s, u ≤ 184 + 486 * (k + 1) → Rl (k + 1) s → Z 195 u (lM ++ [(13, .inl 1), (14, .inl (nI (k + 1)))]) [] s) : Z 659 u (lW k w a b) [] s := by
  have i1 : sp_L_isSo [aR 1 0, aR 20 0, aR 24 0, aR 25 0, aR 26 0, aR 28 0, aR 29 0, aR 30 0, aI (nI a), aI (nI b)] s (fun r s' => s' = s ∧ r = some (aI 1)) FX := ⟨k + 1, a, b, by omega, ha, hb, rfl, rfl, h, rfl, rfl⟩
  simp only [← nIs] at nx
  refine run.go [195] 60 ?_
  repeat' (first | apply And.intro | (intro q; exact absurd q (by decide)) | (intro q; exact absurd (by decide) q) | (intro q; exact absurd rfl q) | intro _)
  all_goals first | (exact trivial) | (with_reducible exact Nat.le_refl _) | decide | (exact (rfl : (0 : Nat) = 0)) | (exact Nat.le_of_ble_eq_true rfl) | ((with_reducible show False); contradiction) | omega | skip
  refine ⟨_, i1, ?_⟩
  rintro r s' ⟨rfl, rfl⟩
  repeat' (first | apply And.intro | (intro q; exact absurd q (by decide)) | (intro q; exact absurd (by decide) q) | (intro q; exact absurd rfl q) | intro _)
  all_goals first | (exact trivial) | (with_reducible exact Nat.le_refl _) | decide | (exact (rfl : (0 : Nat) = 0)) | (exact Nat.le_of_ble_eq_true rfl) | ((with_reducible show False); contradiction) | omega | (exact run.take 15 (nx _ _ (by omega) h))
set_option maxRecDepth 100000 in
set_option maxHeartbeats 4000000 in
theorem m_person {u : Nat} (run : Rn tab_L_law 40000 FN FX Z) (hk : k < 64) (ha : a < 60000) (hb : b < 60000) (h : Rl k s) (hu : u ≤ 184 + 486 * k) (hw : w < 9)
    (nx : ∀ u s, u ≤ 184 + 486 * k + 36 → Rl (k + 1) s → Z 659 u (lW k w a b) [] s) : Z 282 u (lW k w a b) [] s := by
  have ip : ∀ v, v < 6 → sp_L_isPerson [aR 1 0, aR 20 0, aR 21 0, aR 23 0, aR 24 0, aR 25 0, aR 30 0, aI (nI v), aI (nI a), aI (nI b)] s (fun r s' => r = some (aI 1) ∧ Rl (k + 1) s') FX := fun v hv => ⟨k, v, a, b, hk, hv, ha, hb, rfl, rfl, rfl, h, fun s2 h2 => ⟨rfl, h2⟩⟩
  by_cases c0 : w < 3
  · have c0' := c0
    have l9 : ¬ (9 : Int32) ≤ nI w := nI_ge (b := 9) (by omega) (by decide)
    have l3 : ¬ (3 : Int32) ≤ nI w := nI_ge (b := 3) (by omega) (by decide)
    have i1 := ip 0 (by decide)
    rw [show nI 0 = (0 : Int32) from rfl] at i1
    refine run.go [659] 80 ?_
    repeat' (first | apply And.intro | (intro q; exact absurd q (by decide)) | (intro q; exact absurd (by decide) q) | (intro q; exact absurd rfl q) | (intro q; exact absurd q l9) | (intro q; exact absurd l9 q) | (intro q; exact absurd q l3) | (intro q; exact absurd l3 q) | intro _)
    all_goals first | (exact trivial) | (with_reducible exact Nat.le_refl _) | decide | (exact (rfl : (0 : Nat) = 0)) | (exact Nat.le_of_ble_eq_true rfl) | ((with_reducible show False); contradiction) | omega | skip
    refine ⟨_, i1, ?_⟩
    rintro r s' ⟨rfl, h2⟩
    repeat' (first | apply And.intro | (intro q; exact absurd q (by decide)) | (intro q; exact absurd (by decide) q) | (intro q; exact absurd rfl q) | intro _)
    all_goals first | (exact trivial) | (with_reducible exact Nat.le_refl _) | decide | (exact (rfl : (0 : Nat) = 0)) | (exact Nat.le_of_ble_eq_true rfl) | ((with_reducible show False); contradiction) | omega | (exact nx _ _ (by omega) h2)
  by_cases c1 : w = 3
  · subst c1
    have i1 := ip 1 (by decide)
    rw [show nI 1 = (1 : Int32) from rfl] at i1
    refine run.go [659] 80 ?_
    repeat' (first | apply And.intro | (intro q; exact absurd q (by decide)) | (intro q; exact absurd (by decide) q) | (intro q; exact absurd rfl q) | intro _)
    all_goals first | (exact trivial) | (with_reducible exact Nat.le_refl _) | decide | (exact (rfl : (0 : Nat) = 0)) | (exact Nat.le_of_ble_eq_true rfl) | ((with_reducible show False); contradiction) | omega | skip
    refine ⟨_, i1, ?_⟩
    rintro r s' ⟨rfl, h2⟩
    repeat' (first | apply And.intro | (intro q; exact absurd q (by decide)) | (intro q; exact absurd (by decide) q) | (intro q; exact absurd rfl q) | intro _)
    all_goals first | (exact trivial) | (with_reducible exact Nat.le_refl _) | decide | (exact (rfl : (0 : Nat) = 0)) | (exact Nat.le_of_ble_eq_true rfl) | ((with_reducible show False); contradiction) | omega | (exact nx _ _ (by omega) h2)
  by_cases c2 : w = 4
  · subst c2
    have i1 := ip 2 (by decide)
    rw [show nI 2 = (2 : Int32) from rfl] at i1
    refine run.go [659] 80 ?_
    repeat' (first | apply And.intro | (intro q; exact absurd q (by decide)) | (intro q; exact absurd (by decide) q) | (intro q; exact absurd rfl q) | intro _)
    all_goals first | (exact trivial) | (with_reducible exact Nat.le_refl _) | decide | (exact (rfl : (0 : Nat) = 0)) | (exact Nat.le_of_ble_eq_true rfl) | ((with_reducible show False); contradiction) | omega | skip
    refine ⟨_, i1, ?_⟩
    rintro r s' ⟨rfl, h2⟩
    repeat' (first | apply And.intro | (intro q; exact absurd q (by decide)) | (intro q; exact absurd (by decide) q) | (intro q; exact absurd rfl q) | intro _)
    all_goals first | (exact trivial) | (with_reducible exact Nat.le_refl _) | decide | (exact (rfl : (0 : Nat) = 0)) | (exact Nat.le_of_ble_eq_true rfl) | ((with_reducible show False); contradiction) | omega | (exact nx _ _ (by omega) h2)
  by_cases c3 : w = 5
  · subst c3
    have i1 := ip 3 (by decide)
    rw [show nI 3 = (3 : Int32) from rfl] at i1
    refine run.go [659] 80 ?_
    repeat' (first | apply And.intro | (intro q; exact absurd q (by decide)) | (intro q; exact absurd (by decide) q) | (intro q; exact absurd rfl q) | intro _)
    all_goals first | (exact trivial) | (with_reducible exact Nat.le_refl _) | decide | (exact (rfl : (0 : Nat) = 0)) | (exact Nat.le_of_ble_eq_true rfl) | ((with_reducible show False); contradiction) | omega | skip
    refine ⟨_, i1, ?_⟩
    rintro r s' ⟨rfl, h2⟩
    repeat' (first | apply And.intro | (intro q; exact absurd q (by decide)) | (intro q; exact absurd (by decide) q) | (intro q; exact absurd rfl q) | intro _)
    all_goals first | (exact trivial) | (with_reducible exact Nat.le_refl _) | decide | (exact (rfl : (0 : Nat) = 0)) | (exact Nat.le_of_ble_eq_true rfl) | ((with_reducible show False); contradiction) | omega | (exact nx _ _ (by omega) h2)
  by_cases c4 : w = 6
  · subst c4
    have i1 := ip 4 (by decide)
    rw [show nI 4 = (4 : Int32) from rfl] at i1
    refine run.go [659] 80 ?_
    repeat' (first | apply And.intro | (intro q; exact absurd q (by decide)) | (intro q; exact absurd (by decide) q) | (intro q; exact absurd rfl q) | intro _)
    all_goals first | (exact trivial) | (with_reducible exact Nat.le_refl _) | decide | (exact (rfl : (0 : Nat) = 0)) | (exact Nat.le_of_ble_eq_true rfl) | ((with_reducible show False); contradiction) | omega | skip
    refine ⟨_, i1, ?_⟩
    rintro r s' ⟨rfl, h2⟩
    repeat' (first | apply And.intro | (intro q; exact absurd q (by decide)) | (intro q; exact absurd (by decide) q) | (intro q; exact absurd rfl q) | intro _)
    all_goals first | (exact trivial) | (with_reducible exact Nat.le_refl _) | decide | (exact (rfl : (0 : Nat) = 0)) | (exact Nat.le_of_ble_eq_true rfl) | ((with_reducible show False); contradiction) | omega | (exact nx _ _ (by omega) h2)
  by_cases c5 : w = 7
  · subst c5
    have i1 := ip 5 (by decide)
    rw [show nI 5 = (5 : Int32) from rfl] at i1
    refine run.go [659] 80 ?_
    repeat' (first | apply And.intro | (intro q; exact absurd q (by decide)) | (intro q; exact absurd (by decide) q) | (intro q; exact absurd rfl q) | intro _)
    all_goals first | (exact trivial) | (with_reducible exact Nat.le_refl _) | decide | (exact (rfl : (0 : Nat) = 0)) | (exact Nat.le_of_ble_eq_true rfl) | ((with_reducible show False); contradiction) | omega | skip
    refine ⟨_, i1, ?_⟩
    rintro r s' ⟨rfl, h2⟩
    repeat' (first | apply And.intro | (intro q; exact absurd q (by decide)) | (intro q; exact absurd (by decide) q) | (intro q; exact absurd rfl q) | intro _)
    all_goals first | (exact trivial) | (with_reducible exact Nat.le_refl _) | decide | (exact (rfl : (0 : Nat) = 0)) | (exact Nat.le_of_ble_eq_true rfl) | ((with_reducible show False); contradiction) | omega | (exact nx _ _ (by omega) h2)
  · have c6 : w = 8 := by omega
    subst c6
    have i1 := ip 5 (by decide)
    rw [show nI 5 = (5 : Int32) from rfl] at i1
    refine run.go [659] 80 ?_
    repeat' (first | apply And.intro | (intro q; exact absurd q (by decide)) | (intro q; exact absurd (by decide) q) | (intro q; exact absurd rfl q) | intro _)
    all_goals first | (exact trivial) | (with_reducible exact Nat.le_refl _) | decide | (exact (rfl : (0 : Nat) = 0)) | (exact Nat.le_of_ble_eq_true rfl) | ((with_reducible show False); contradiction) | omega | skip
    refine ⟨_, i1, ?_⟩
    rintro r s' ⟨rfl, h2⟩
    repeat' (first | apply And.intro | (intro q; exact absurd q (by decide)) | (intro q; exact absurd (by decide) q) | (intro q; exact absurd rfl q) | intro _)
    all_goals first | (exact trivial) | (with_reducible exact Nat.le_refl _) | decide | (exact (rfl : (0 : Nat) = 0)) | (exact Nat.le_of_ble_eq_true rfl) | ((with_reducible show False); contradiction) | omega | (exact nx _ _ (by omega) h2)
set_option maxRecDepth 100000 in
set_option maxHeartbeats 4000000 in
theorem m_vow {u : Nat} (run : Rn tab_L_law 40000 FN FX Z) (hk : k < 64) (ha : a < 60000) (hb : b < 60000) (h : Rl k s) (hu : u ≤ 184 + 486 * k) (hw : 9 ≤ w ∧ w < 20)
    (nx : ∀ u s, u ≤ 184 + 486 * k + 36 → Rl (k + 1) s → Z 659 u (lW k w a b) [] s) : Z 282 u (lW k w a b) [] s := by
  have ip : ∀ v, v < 6 → sp_L_isVow [aR 1 0, aR 20 0, aR 21 0, aR 22 0, aR 23 0, aR 24 0, aR 25 0, aR 26 0, aR 30 0, aI (nI v), aI (nI a), aI (nI b)] s (fun r s' => r = some (aI 1) ∧ Rl (k + 1) s') FX := fun v hv => ⟨k, v, a, b, hk, hv, ha, hb, rfl, rfl, rfl, h, fun s2 h2 => ⟨rfl, h2⟩⟩
  by_cases c0 : w = 9
  · subst c0
    have i1 := ip 0 (by decide)
    rw [show nI 0 = (0 : Int32) from rfl] at i1
    refine run.go [659] 80 ?_
    repeat' (first | apply And.intro | (intro q; exact absurd q (by decide)) | (intro q; exact absurd (by decide) q) | (intro q; exact absurd rfl q) | intro _)
    all_goals first | (exact trivial) | (with_reducible exact Nat.le_refl _) | decide | (exact (rfl : (0 : Nat) = 0)) | (exact Nat.le_of_ble_eq_true rfl) | ((with_reducible show False); contradiction) | omega | skip
    refine ⟨_, i1, ?_⟩
    rintro r s' ⟨rfl, h2⟩
    repeat' (first | apply And.intro | (intro q; exact absurd q (by decide)) | (intro q; exact absurd (by decide) q) | (intro q; exact absurd rfl q) | intro _)
    all_goals first | (exact trivial) | (with_reducible exact Nat.le_refl _) | decide | (exact (rfl : (0 : Nat) = 0)) | (exact Nat.le_of_ble_eq_true rfl) | ((with_reducible show False); contradiction) | omega | (exact nx _ _ (by omega) h2)
  by_cases c1 : w = 10
  · subst c1
    have i1 := ip 1 (by decide)
    rw [show nI 1 = (1 : Int32) from rfl] at i1
    refine run.go [659] 80 ?_
    repeat' (first | apply And.intro | (intro q; exact absurd q (by decide)) | (intro q; exact absurd (by decide) q) | (intro q; exact absurd rfl q) | intro _)
    all_goals first | (exact trivial) | (with_reducible exact Nat.le_refl _) | decide | (exact (rfl : (0 : Nat) = 0)) | (exact Nat.le_of_ble_eq_true rfl) | ((with_reducible show False); contradiction) | omega | skip
    refine ⟨_, i1, ?_⟩
    rintro r s' ⟨rfl, h2⟩
    repeat' (first | apply And.intro | (intro q; exact absurd q (by decide)) | (intro q; exact absurd (by decide) q) | (intro q; exact absurd rfl q) | intro _)
    all_goals first | (exact trivial) | (with_reducible exact Nat.le_refl _) | decide | (exact (rfl : (0 : Nat) = 0)) | (exact Nat.le_of_ble_eq_true rfl) | ((with_reducible show False); contradiction) | omega | (exact nx _ _ (by omega) h2)
  by_cases c2 : w < 16
  · have c2' := c2
    have g9 : (9 : Int32) ≤ nI w := nI_le (a := 9) (by omega) (by omega)
    have l20 : ¬ (20 : Int32) ≤ nI w := nI_ge (b := 20) (by omega) (by decide)
    have e9 : ¬ nI w = (9 : Int32) := fun z => absurd ((nI_eq (a := w) (b := 9) (by omega) (by decide)).mp z) (by omega)
    have e10 : ¬ nI w = (10 : Int32) := fun z => absurd ((nI_eq (a := w) (b := 10) (by omega) (by decide)).mp z) (by omega)
    have l16 : ¬ (16 : Int32) ≤ nI w := nI_ge (b := 16) (by omega) (by decide)
    have i1 := ip 2 (by decide)
    rw [show nI 2 = (2 : Int32) from rfl] at i1
    refine run.go [659] 80 ?_
    repeat' (first | apply And.intro | (intro q; exact absurd q (by decide)) | (intro q; exact absurd (by decide) q) | (intro q; exact absurd rfl q) | (intro q; exact absurd q g9) | (intro q; exact absurd g9 q) | (intro q; exact absurd q l20) | (intro q; exact absurd l20 q) | (intro q; exact absurd q e9) | (intro q; exact absurd e9 q) | (intro q; exact absurd q e10) | (intro q; exact absurd e10 q) | (intro q; exact absurd q l16) | (intro q; exact absurd l16 q) | intro _)
    all_goals first | (exact trivial) | (with_reducible exact Nat.le_refl _) | decide | (exact (rfl : (0 : Nat) = 0)) | (exact Nat.le_of_ble_eq_true rfl) | ((with_reducible show False); contradiction) | omega | skip
    refine ⟨_, i1, ?_⟩
    rintro r s' ⟨rfl, h2⟩
    repeat' (first | apply And.intro | (intro q; exact absurd q (by decide)) | (intro q; exact absurd (by decide) q) | (intro q; exact absurd rfl q) | intro _)
    all_goals first | (exact trivial) | (with_reducible exact Nat.le_refl _) | decide | (exact (rfl : (0 : Nat) = 0)) | (exact Nat.le_of_ble_eq_true rfl) | ((with_reducible show False); contradiction) | omega | (exact nx _ _ (by omega) h2)
  by_cases c3 : w = 16
  · subst c3
    have i1 := ip 3 (by decide)
    rw [show nI 3 = (3 : Int32) from rfl] at i1
    refine run.go [659] 80 ?_
    repeat' (first | apply And.intro | (intro q; exact absurd q (by decide)) | (intro q; exact absurd (by decide) q) | (intro q; exact absurd rfl q) | intro _)
    all_goals first | (exact trivial) | (with_reducible exact Nat.le_refl _) | decide | (exact (rfl : (0 : Nat) = 0)) | (exact Nat.le_of_ble_eq_true rfl) | ((with_reducible show False); contradiction) | omega | skip
    refine ⟨_, i1, ?_⟩
    rintro r s' ⟨rfl, h2⟩
    repeat' (first | apply And.intro | (intro q; exact absurd q (by decide)) | (intro q; exact absurd (by decide) q) | (intro q; exact absurd rfl q) | intro _)
    all_goals first | (exact trivial) | (with_reducible exact Nat.le_refl _) | decide | (exact (rfl : (0 : Nat) = 0)) | (exact Nat.le_of_ble_eq_true rfl) | ((with_reducible show False); contradiction) | omega | (exact nx _ _ (by omega) h2)
  by_cases c4 : w = 17
  · subst c4
    have i1 := ip 3 (by decide)
    rw [show nI 3 = (3 : Int32) from rfl] at i1
    refine run.go [659] 80 ?_
    repeat' (first | apply And.intro | (intro q; exact absurd q (by decide)) | (intro q; exact absurd (by decide) q) | (intro q; exact absurd rfl q) | intro _)
    all_goals first | (exact trivial) | (with_reducible exact Nat.le_refl _) | decide | (exact (rfl : (0 : Nat) = 0)) | (exact Nat.le_of_ble_eq_true rfl) | ((with_reducible show False); contradiction) | omega | skip
    refine ⟨_, i1, ?_⟩
    rintro r s' ⟨rfl, h2⟩
    repeat' (first | apply And.intro | (intro q; exact absurd q (by decide)) | (intro q; exact absurd (by decide) q) | (intro q; exact absurd rfl q) | intro _)
    all_goals first | (exact trivial) | (with_reducible exact Nat.le_refl _) | decide | (exact (rfl : (0 : Nat) = 0)) | (exact Nat.le_of_ble_eq_true rfl) | ((with_reducible show False); contradiction) | omega | (exact nx _ _ (by omega) h2)
  by_cases c5 : w = 18
  · subst c5
    have i1 := ip 4 (by decide)
    rw [show nI 4 = (4 : Int32) from rfl] at i1
    refine run.go [659] 80 ?_
    repeat' (first | apply And.intro | (intro q; exact absurd q (by decide)) | (intro q; exact absurd (by decide) q) | (intro q; exact absurd rfl q) | intro _)
    all_goals first | (exact trivial) | (with_reducible exact Nat.le_refl _) | decide | (exact (rfl : (0 : Nat) = 0)) | (exact Nat.le_of_ble_eq_true rfl) | ((with_reducible show False); contradiction) | omega | skip
    refine ⟨_, i1, ?_⟩
    rintro r s' ⟨rfl, h2⟩
    repeat' (first | apply And.intro | (intro q; exact absurd q (by decide)) | (intro q; exact absurd (by decide) q) | (intro q; exact absurd rfl q) | intro _)
    all_goals first | (exact trivial) | (with_reducible exact Nat.le_refl _) | decide | (exact (rfl : (0 : Nat) = 0)) | (exact Nat.le_of_ble_eq_true rfl) | ((with_reducible show False); contradiction) | omega | (exact nx _ _ (by omega) h2)
  · have c6 : w = 19 := by omega
    subst c6
    have i1 := ip 5 (by decide)
    rw [show nI 5 = (5 : Int32) from rfl] at i1
    refine run.go [659] 80 ?_
    repeat' (first | apply And.intro | (intro q; exact absurd q (by decide)) | (intro q; exact absurd (by decide) q) | (intro q; exact absurd rfl q) | intro _)
    all_goals first | (exact trivial) | (with_reducible exact Nat.le_refl _) | decide | (exact (rfl : (0 : Nat) = 0)) | (exact Nat.le_of_ble_eq_true rfl) | ((with_reducible show False); contradiction) | omega | skip
    refine ⟨_, i1, ?_⟩
    rintro r s' ⟨rfl, h2⟩
    repeat' (first | apply And.intro | (intro q; exact absurd q (by decide)) | (intro q; exact absurd (by decide) q) | (intro q; exact absurd rfl q) | intro _)
    all_goals first | (exact trivial) | (with_reducible exact Nat.le_refl _) | decide | (exact (rfl : (0 : Nat) = 0)) | (exact Nat.le_of_ble_eq_true rfl) | ((with_reducible show False); contradiction) | omega | (exact nx _ _ (by omega) h2)
set_option maxRecDepth 100000 in
set_option maxHeartbeats 4000000 in
theorem m_cause {u : Nat} (run : Rn tab_L_law 40000 FN FX Z) (hk : k < 64) (ha : a < 60000) (hb : b < 60000) (h : Rl k s) (hu : u ≤ 184 + 486 * k) (hw : 20 ≤ w ∧ w < 45)
    (nx : ∀ u s, u ≤ 184 + 486 * k + 36 → Rl (k + 1) s → Z 659 u (lW k w a b) [] s) : Z 282 u (lW k w a b) [] s := by
  have ip : ∀ v, v < 7 → sp_L_isCause [aR 1 0, aR 20 0, aR 24 0, aR 25 0, aR 26 0, aR 27 0, aR 28 0, aR 29 0, aR 30 0, aI (nI v), aI (nI a), aI (nI b)] s (fun r s' => r = some (aI 1) ∧ Rl (k + 1) s') FX := fun v hv => ⟨k, v, a, b, hk, hv, ha, hb, rfl, rfl, rfl, h, fun s2 h2 => ⟨rfl, h2⟩⟩
  by_cases c0 : w < 24
  · have c0' := c0
    have g9 : (9 : Int32) ≤ nI w := nI_le (a := 9) (by omega) (by omega)
    have g20 : (20 : Int32) ≤ nI w := nI_le (a := 20) (by omega) (by omega)
    have l45 : ¬ (45 : Int32) ≤ nI w := nI_ge (b := 45) (by omega) (by decide)
    have l24 : ¬ (24 : Int32) ≤ nI w := nI_ge (b := 24) (by omega) (by decide)
    have i1 := ip 0 (by decide)
    rw [show nI 0 = (0 : Int32) from rfl] at i1
    refine run.go [659] 80 ?_
    repeat' (first | apply And.intro | (intro q; exact absurd q (by decide)) | (intro q; exact absurd (by decide) q) | (intro q; exact absurd rfl q) | (intro q; exact absurd q g9) | (intro q; exact absurd g9 q) | (intro q; exact absurd q g20) | (intro q; exact absurd g20 q) | (intro q; exact absurd q l45) | (intro q; exact absurd l45 q) | (intro q; exact absurd q l24) | (intro q; exact absurd l24 q) | intro _)
    all_goals first | (exact trivial) | (with_reducible exact Nat.le_refl _) | decide | (exact (rfl : (0 : Nat) = 0)) | (exact Nat.le_of_ble_eq_true rfl) | ((with_reducible show False); contradiction) | omega | skip
    refine ⟨_, i1, ?_⟩
    rintro r s' ⟨rfl, h2⟩
    repeat' (first | apply And.intro | (intro q; exact absurd q (by decide)) | (intro q; exact absurd (by decide) q) | (intro q; exact absurd rfl q) | intro _)
    all_goals first | (exact trivial) | (with_reducible exact Nat.le_refl _) | decide | (exact (rfl : (0 : Nat) = 0)) | (exact Nat.le_of_ble_eq_true rfl) | ((with_reducible show False); contradiction) | omega | (exact nx _ _ (by omega) h2)
  by_cases c1 : w = 24
  · subst c1
    have i1 := ip 1 (by decide)
    rw [show nI 1 = (1 : Int32) from rfl] at i1
    refine run.go [659] 80 ?_
    repeat' (first | apply And.intro | (intro q; exact absurd q (by decide)) | (intro q; exact absurd (by decide) q) | (intro q; exact absurd rfl q) | intro _)
    all_goals first | (exact trivial) | (with_reducible exact Nat.le_refl _) | decide | (exact (rfl : (0 : Nat) = 0)) | (exact Nat.le_of_ble_eq_true rfl) | ((with_reducible show False); contradiction) | omega | skip
    refine ⟨_, i1, ?_⟩
    rintro r s' ⟨rfl, h2⟩
    repeat' (first | apply And.intro | (intro q; exact absurd q (by decide)) | (intro q; exact absurd (by decide) q) | (intro q; exact absurd rfl q) | intro _)
    all_goals first | (exact trivial) | (with_reducible exact Nat.le_refl _) | decide | (exact (rfl : (0 : Nat) = 0)) | (exact Nat.le_of_ble_eq_true rfl) | ((with_reducible show False); contradiction) | omega | (exact nx _ _ (by omega) h2)
  by_cases c2 : w < 31
  · have c2' := c2
    have g9 : (9 : Int32) ≤ nI w := nI_le (a := 9) (by omega) (by omega)
    have g20 : (20 : Int32) ≤ nI w := nI_le (a := 20) (by omega) (by omega)
    have l45 : ¬ (45 : Int32) ≤ nI w := nI_ge (b := 45) (by omega) (by decide)
    have g24 : (24 : Int32) ≤ nI w := nI_le (a := 24) (by omega) (by omega)
    have e24 : ¬ nI w = (24 : Int32) := fun z => absurd ((nI_eq (a := w) (b := 24) (by omega) (by decide)).mp z) (by omega)
    have l31 : ¬ (31 : Int32) ≤ nI w := nI_ge (b := 31) (by omega) (by decide)
    have i1 := ip 2 (by decide)
    rw [show nI 2 = (2 : Int32) from rfl] at i1
    refine run.go [659] 80 ?_
    repeat' (first | apply And.intro | (intro q; exact absurd q (by decide)) | (intro q; exact absurd (by decide) q) | (intro q; exact absurd rfl q) | (intro q; exact absurd q g9) | (intro q; exact absurd g9 q) | (intro q; exact absurd q g20) | (intro q; exact absurd g20 q) | (intro q; exact absurd q l45) | (intro q; exact absurd l45 q) | (intro q; exact absurd q g24) | (intro q; exact absurd g24 q) | (intro q; exact absurd q e24) | (intro q; exact absurd e24 q) | (intro q; exact absurd q l31) | (intro q; exact absurd l31 q) | intro _)
    all_goals first | (exact trivial) | (with_reducible exact Nat.le_refl _) | decide | (exact (rfl : (0 : Nat) = 0)) | (exact Nat.le_of_ble_eq_true rfl) | ((with_reducible show False); contradiction) | omega | skip
    refine ⟨_, i1, ?_⟩
    rintro r s' ⟨rfl, h2⟩
    repeat' (first | apply And.intro | (intro q; exact absurd q (by decide)) | (intro q; exact absurd (by decide) q) | (intro q; exact absurd rfl q) | intro _)
    all_goals first | (exact trivial) | (with_reducible exact Nat.le_refl _) | decide | (exact (rfl : (0 : Nat) = 0)) | (exact Nat.le_of_ble_eq_true rfl) | ((with_reducible show False); contradiction) | omega | (exact nx _ _ (by omega) h2)
  by_cases c3 : w < 34
  · have c3' := c3
    have g9 : (9 : Int32) ≤ nI w := nI_le (a := 9) (by omega) (by omega)
    have g20 : (20 : Int32) ≤ nI w := nI_le (a := 20) (by omega) (by omega)
    have l45 : ¬ (45 : Int32) ≤ nI w := nI_ge (b := 45) (by omega) (by decide)
    have g24 : (24 : Int32) ≤ nI w := nI_le (a := 24) (by omega) (by omega)
    have e24 : ¬ nI w = (24 : Int32) := fun z => absurd ((nI_eq (a := w) (b := 24) (by omega) (by decide)).mp z) (by omega)
    have g31 : (31 : Int32) ≤ nI w := nI_le (a := 31) (by omega) (by omega)
    have l34 : ¬ (34 : Int32) ≤ nI w := nI_ge (b := 34) (by omega) (by decide)
    have i1 := ip 3 (by decide)
    rw [show nI 3 = (3 : Int32) from rfl] at i1
    refine run.go [659] 80 ?_
    repeat' (first | apply And.intro | (intro q; exact absurd q (by decide)) | (intro q; exact absurd (by decide) q) | (intro q; exact absurd rfl q) | (intro q; exact absurd q g9) | (intro q; exact absurd g9 q) | (intro q; exact absurd q g20) | (intro q; exact absurd g20 q) | (intro q; exact absurd q l45) | (intro q; exact absurd l45 q) | (intro q; exact absurd q g24) | (intro q; exact absurd g24 q) | (intro q; exact absurd q e24) | (intro q; exact absurd e24 q) | (intro q; exact absurd q g31) | (intro q; exact absurd g31 q) | (intro q; exact absurd q l34) | (intro q; exact absurd l34 q) | intro _)
    all_goals first | (exact trivial) | (with_reducible exact Nat.le_refl _) | decide | (exact (rfl : (0 : Nat) = 0)) | (exact Nat.le_of_ble_eq_true rfl) | ((with_reducible show False); contradiction) | omega | skip
    refine ⟨_, i1, ?_⟩
    rintro r s' ⟨rfl, h2⟩
    repeat' (first | apply And.intro | (intro q; exact absurd q (by decide)) | (intro q; exact absurd (by decide) q) | (intro q; exact absurd rfl q) | intro _)
    all_goals first | (exact trivial) | (with_reducible exact Nat.le_refl _) | decide | (exact (rfl : (0 : Nat) = 0)) | (exact Nat.le_of_ble_eq_true rfl) | ((with_reducible show False); contradiction) | omega | (exact nx _ _ (by omega) h2)
  by_cases c4 : w < 41
  · have c4' := c4
    have g9 : (9 : Int32) ≤ nI w := nI_le (a := 9) (by omega) (by omega)
    have g20 : (20 : Int32) ≤ nI w := nI_le (a := 20) (by omega) (by omega)
    have l45 : ¬ (45 : Int32) ≤ nI w := nI_ge (b := 45) (by omega) (by decide)
    have g24 : (24 : Int32) ≤ nI w := nI_le (a := 24) (by omega) (by omega)
    have e24 : ¬ nI w = (24 : Int32) := fun z => absurd ((nI_eq (a := w) (b := 24) (by omega) (by decide)).mp z) (by omega)
    have g31 : (31 : Int32) ≤ nI w := nI_le (a := 31) (by omega) (by omega)
    have g34 : (34 : Int32) ≤ nI w := nI_le (a := 34) (by omega) (by omega)
    have l41 : ¬ (41 : Int32) ≤ nI w := nI_ge (b := 41) (by omega) (by decide)
    have i1 := ip 4 (by decide)
    rw [show nI 4 = (4 : Int32) from rfl] at i1
    refine run.go [659] 80 ?_
    repeat' (first | apply And.intro | (intro q; exact absurd q (by decide)) | (intro q; exact absurd (by decide) q) | (intro q; exact absurd rfl q) | (intro q; exact absurd q g9) | (intro q; exact absurd g9 q) | (intro q; exact absurd q g20) | (intro q; exact absurd g20 q) | (intro q; exact absurd q l45) | (intro q; exact absurd l45 q) | (intro q; exact absurd q g24) | (intro q; exact absurd g24 q) | (intro q; exact absurd q e24) | (intro q; exact absurd e24 q) | (intro q; exact absurd q g31) | (intro q; exact absurd g31 q) | (intro q; exact absurd q g34) | (intro q; exact absurd g34 q) | (intro q; exact absurd q l41) | (intro q; exact absurd l41 q) | intro _)
    all_goals first | (exact trivial) | (with_reducible exact Nat.le_refl _) | decide | (exact (rfl : (0 : Nat) = 0)) | (exact Nat.le_of_ble_eq_true rfl) | ((with_reducible show False); contradiction) | omega | skip
    refine ⟨_, i1, ?_⟩
    rintro r s' ⟨rfl, h2⟩
    repeat' (first | apply And.intro | (intro q; exact absurd q (by decide)) | (intro q; exact absurd (by decide) q) | (intro q; exact absurd rfl q) | intro _)
    all_goals first | (exact trivial) | (with_reducible exact Nat.le_refl _) | decide | (exact (rfl : (0 : Nat) = 0)) | (exact Nat.le_of_ble_eq_true rfl) | ((with_reducible show False); contradiction) | omega | (exact nx _ _ (by omega) h2)
  by_cases c5 : w < 44
  · have c5' := c5
    have g9 : (9 : Int32) ≤ nI w := nI_le (a := 9) (by omega) (by omega)
    have g20 : (20 : Int32) ≤ nI w := nI_le (a := 20) (by omega) (by omega)
    have l45 : ¬ (45 : Int32) ≤ nI w := nI_ge (b := 45) (by omega) (by decide)
    have g24 : (24 : Int32) ≤ nI w := nI_le (a := 24) (by omega) (by omega)
    have e24 : ¬ nI w = (24 : Int32) := fun z => absurd ((nI_eq (a := w) (b := 24) (by omega) (by decide)).mp z) (by omega)
    have g31 : (31 : Int32) ≤ nI w := nI_le (a := 31) (by omega) (by omega)
    have g34 : (34 : Int32) ≤ nI w := nI_le (a := 34) (by omega) (by omega)
    have g41 : (41 : Int32) ≤ nI w := nI_le (a := 41) (by omega) (by omega)
    have l44 : ¬ (44 : Int32) ≤ nI w := nI_ge (b := 44) (by omega) (by decide)
    have i1 := ip 5 (by decide)
    rw [show nI 5 = (5 : Int32) from rfl] at i1
    refine run.go [659] 80 ?_
    repeat' (first | apply And.intro | (intro q; exact absurd q (by decide)) | (intro q; exact absurd (by decide) q) | (intro q; exact absurd rfl q) | (intro q; exact absurd q g9) | (intro q; exact absurd g9 q) | (intro q; exact absurd q g20) | (intro q; exact absurd g20 q) | (intro q; exact absurd q l45) | (intro q; exact absurd l45 q) | (intro q; exact absurd q g24) | (intro q; exact absurd g24 q) | (intro q; exact absurd q e24) | (intro q; exact absurd e24 q) | (intro q; exact absurd q g31) | (intro q; exact absurd g31 q) | (intro q; exact absurd q g34) | (intro q; exact absurd g34 q) | (intro q; exact absurd q g41) | (intro q; exact absurd g41 q) | (intro q; exact absurd q l44) | (intro q; exact absurd l44 q) | intro _)
    all_goals first | (exact trivial) | (with_reducible exact Nat.le_refl _) | decide | (exact (rfl : (0 : Nat) = 0)) | (exact Nat.le_of_ble_eq_true rfl) | ((with_reducible show False); contradiction) | omega | skip
    refine ⟨_, i1, ?_⟩
    rintro r s' ⟨rfl, h2⟩
    repeat' (first | apply And.intro | (intro q; exact absurd q (by decide)) | (intro q; exact absurd (by decide) q) | (intro q; exact absurd rfl q) | intro _)
    all_goals first | (exact trivial) | (with_reducible exact Nat.le_refl _) | decide | (exact (rfl : (0 : Nat) = 0)) | (exact Nat.le_of_ble_eq_true rfl) | ((with_reducible show False); contradiction) | omega | (exact nx _ _ (by omega) h2)
  · have c6 : w = 44 := by omega
    subst c6
    have i1 := ip 6 (by decide)
    rw [show nI 6 = (6 : Int32) from rfl] at i1
    refine run.go [659] 80 ?_
    repeat' (first | apply And.intro | (intro q; exact absurd q (by decide)) | (intro q; exact absurd (by decide) q) | (intro q; exact absurd rfl q) | intro _)
    all_goals first | (exact trivial) | (with_reducible exact Nat.le_refl _) | decide | (exact (rfl : (0 : Nat) = 0)) | (exact Nat.le_of_ble_eq_true rfl) | ((with_reducible show False); contradiction) | omega | skip
    refine ⟨_, i1, ?_⟩
    rintro r s' ⟨rfl, h2⟩
    repeat' (first | apply And.intro | (intro q; exact absurd q (by decide)) | (intro q; exact absurd (by decide) q) | (intro q; exact absurd rfl q) | intro _)
    all_goals first | (exact trivial) | (with_reducible exact Nat.le_refl _) | decide | (exact (rfl : (0 : Nat) = 0)) | (exact Nat.le_of_ble_eq_true rfl) | ((with_reducible show False); contradiction) | omega | (exact nx _ _ (by omega) h2)
end Mn2
/-! the law's main: days pass -/
section Mn3
variable {X : Xt} {Z : Kt} {s : Sg} {t k w a b : Nat}
theorem stS_same (s : Sg) (i j c : Nat) : stS s i j c (s.2.1 i j c) = s := by
  unfold stS
  refine Prod.ext rfl (Prod.ext ?_ rfl)
  funext x y z
  show (if x = i ∧ y = j ∧ z = c then s.2.1 i j c else s.2.1 x y z) = s.2.1 x y z
  by_cases h : x = i ∧ y = j ∧ z = c
  · obtain ⟨rfl, rfl, rfl⟩ := h
    rw [if_pos ⟨rfl, rfl, rfl⟩]
  · rw [if_neg h]
set_option maxRecDepth 100000 in
set_option maxHeartbeats 4000000 in
theorem m_days {u d : Nat} (run : Rn tab_L_law 40000 FN FX Z) (hk : k < 64) (h : Rl k s) (hu : u ≤ 184 + 486 * k) (hd : d < 100000)
    (nx : ∀ u s, u ≤ 184 + 486 * k + 36 → Rl (k + 1) s → Z 659 u (lW k w a b) [] s) : Z 586 u (lW k w a b ++ [(18, .inl (nI d))]) [] s := by
  have b0 : Ib 0 4 := nIb (k := 0) (by decide) (by decide)
  obtain ⟨fa, mo, T, hg⟩ := id h
  obtain ⟨dy, hdy, d7, d0⟩ := hg.1.2.2.2.2.2
  have g0 : s.2.1 30 0 0 = nI dy := d0
  by_cases c : 1 ≤ d ∧ d ≤ 10000
  · have h1 : ¬ nI d ≤ 0 := nI_ge (b := d) c.1 (by omega)
    have h2 : ¬ (10001 : Int32) ≤ nI d := nI_ge (b := 10001) (by omega) (by decide)
    have d1 : sp_L_does [aR 1 0, aI 20, aI (nI d), aI 0, aI 0, aI 0] (stS s 30 0 0 (s.2.1 30 0 0 + nI d)) (Dnr (nI dy + nI d) (k + 1) 30 0 (nI dy + nI d)) FX := by
      rw [g0]
      exact pass_0 hg c d7 hdy
    refine run.go [659] 80 ?_
    repeat' (first | apply And.intro | (intro q; exact absurd q (by decide)) | (intro q; exact absurd (by decide) q) | (intro q; exact absurd rfl q) | (intro q; exact absurd q h1) | (intro q; exact absurd h1 q) | (intro q; exact absurd q h2) | (intro q; exact absurd h2 q) | intro _)
    all_goals first | (exact b0) | (exact trivial) | (with_reducible exact Nat.le_refl _) | decide | (exact (rfl : (0 : Nat) = 0)) | (exact Nat.le_of_ble_eq_true rfl) | ((with_reducible show False); contradiction) | omega | skip
    refine ⟨_, d1, ?_⟩
    rintro r s2 ⟨rfl, q2, q3⟩
    have e := q3.symm
    repeat' (first | apply And.intro | (intro q; exact absurd q (by decide)) | (intro q; exact absurd (by decide) q) | (intro q; exact absurd rfl q) | (intro q; exact absurd q e) | (intro q; exact absurd e q) | intro _)
    all_goals first | (exact b0) | (exact trivial) | (with_reducible exact Nat.le_refl _) | decide | (exact (rfl : (0 : Nat) = 0)) | (exact Nat.le_of_ble_eq_true rfl) | ((with_reducible show False); contradiction) | omega | (exact run.take 18 (nx _ _ (by omega) q2))
  · have d1 : sp_L_does [aR 1 0, aI 20, aI (nI d), aI 0, aI 0, aI 0] (stS s 30 0 0 (s.2.1 30 0 0 + 0)) (Dn (-2000000) k) FX := by
      rw [Int32.add_zero, stS_same]
      exact pass_2 h hd c
    by_cases c1 : d = 0
    · subst c1
      refine run.go [659] 80 ?_
      repeat' (first | apply And.intro | (intro q; exact absurd q (by decide)) | (intro q; exact absurd (by decide) q) | (intro q; exact absurd rfl q) | intro _)
      all_goals first | (exact b0) | (exact trivial) | (with_reducible exact Nat.le_refl _) | decide | (exact (rfl : (0 : Nat) = 0)) | (exact Nat.le_of_ble_eq_true rfl) | ((with_reducible show False); contradiction) | omega | skip
      refine ⟨_, d1, ?_⟩
      rintro r s2 ⟨rfl, q2⟩
      repeat' (first | apply And.intro | (intro q; exact absurd q (by decide)) | (intro q; exact absurd (by decide) q) | (intro q; exact absurd rfl q) | intro _)
      all_goals first | (exact b0) | (exact trivial) | (with_reducible exact Nat.le_refl _) | decide | (exact (rfl : (0 : Nat) = 0)) | (exact Nat.le_of_ble_eq_true rfl) | ((with_reducible show False); contradiction) | omega | (exact run.take 18 (nx _ _ (by omega) (Rl_mono (Nat.le_succ k) q2)))
    · have h1 : ¬ nI d ≤ 0 := nI_ge (a := 0) (b := d) (by omega) (by omega)
      have h2 : (10001 : Int32) ≤ nI d := nI_le (a := 10001) (by omega) (by omega)
      refine run.go [659] 80 ?_
      repeat' (first | apply And.intro | (intro q; exact absurd q (by decide)) | (intro q; exact absurd (by decide) q) | (intro q; exact absurd rfl q) | (intro q; exact absurd q h1) | (intro q; exact absurd h1 q) | (intro q; exact absurd q h2) | (intro q; exact absurd h2 q) | intro _)
      all_goals first | (exact b0) | (exact trivial) | (with_reducible exact Nat.le_refl _) | decide | (exact (rfl : (0 : Nat) = 0)) | (exact Nat.le_of_ble_eq_true rfl) | ((with_reducible show False); contradiction) | omega | skip
      refine ⟨_, d1, ?_⟩
      rintro r s2 ⟨rfl, q2⟩
      repeat' (first | apply And.intro | (intro q; exact absurd q (by decide)) | (intro q; exact absurd (by decide) q) | (intro q; exact absurd rfl q) | intro _)
      all_goals first | (exact b0) | (exact trivial) | (with_reducible exact Nat.le_refl _) | decide | (exact (rfl : (0 : Nat) = 0)) | (exact Nat.le_of_ble_eq_true rfl) | ((with_reducible show False); contradiction) | omega | (exact run.take 18 (nx _ _ (by omega) (Rl_mono (Nat.le_succ k) q2)))
set_option maxRecDepth 100000 in
set_option maxHeartbeats 4000000 in
theorem m_pass {u : Nat} (run : Rn tab_L_law 40000 FN FX Z) (hk : k < 64) (ha : a < 60000) (hb : b < 60000) (h : Rl k s) (hu : u ≤ 184 + 486 * k) (hw : 45 ≤ w ∧ w < 48)
    (nx : ∀ u s, u ≤ 184 + 486 * k + 36 → Rl (k + 1) s → Z 659 u (lW k w a b) [] s) : Z 282 u (lW k w a b) [] s := by
  have g9 : (9 : Int32) ≤ nI w := nI_le (a := 9) (by omega) (by omega)
  have g20 : (20 : Int32) ≤ nI w := nI_le (a := 20) (by omega) (by omega)
  have g45 : (45 : Int32) ≤ nI w := nI_le (a := 45) (by omega) (by omega)
  have n9 : ¬ (9 : Int32) = 0 := by decide
  have n3 : ¬ (3 : Int32) = 0 := by decide
  have n300 : ¬ (300 : Int32) = 0 := by decide
  have ea : irm (nI a) 9 = nI (a % 9) := irmN (d := 9) (by omega) (by decide) (by decide)
  have eb : irm (nI b) 3 = nI (b % 3) := irmN (d := 3) (by omega) (by decide) (by decide)
  have ec : irm (nI b) 300 = nI (b % 300) := irmN (d := 300) (by omega) (by decide) (by decide)
  by_cases c : a % 9 = 0
  · have j := m_days (w := w) (a := a) (b := b) (d := b % 3 * 5001) run hk h hu (by omega) nx
    have hc : ¬ ¬ irm (nI a) 9 = 0 := by
      rw [ea, c]
      exact fun z => z rfl
    have e : nI (b % 3 * 5001) = irm (nI b) 3 * 5001 := by
      rw [eb]
      exact (nIm (b % 3) 5001).symm
    rw [e] at j
    refine run.go [586] 60 ?_
    repeat' (first | apply And.intro | (intro q; exact absurd q (by decide)) | (intro q; exact absurd (by decide) q) | (intro q; exact absurd rfl q) | (intro q; exact absurd q g9) | (intro q; exact absurd g9 q) | (intro q; exact absurd q g20) | (intro q; exact absurd g20 q) | (intro q; exact absurd q g45) | (intro q; exact absurd g45 q) | (intro q; exact absurd q hc) | (intro q; exact absurd hc q) | intro _)
    all_goals first | (exact n9) | (exact n3) | (exact n300) | (exact trivial) | (with_reducible exact Nat.le_refl _) | decide | (exact (rfl : (0 : Nat) = 0)) | (exact Nat.le_of_ble_eq_true rfl) | ((with_reducible show False); contradiction) | (exact j)
  · have j := m_days (w := w) (a := a) (b := b) (d := 1 + b % 300) run hk h hu (by omega) nx
    have hc : ¬ irm (nI a) 9 = 0 := by
      rw [ea]
      exact fun z => c ((n0 (by omega)).mp z)
    have e : nI (1 + b % 300) = 1 + irm (nI b) 300 := by
      rw [ec]
      exact (nI_add 1 (b % 300)).symm
    rw [e] at j
    refine run.go [586] 60 ?_
    repeat' (first | apply And.intro | (intro q; exact absurd q (by decide)) | (intro q; exact absurd (by decide) q) | (intro q; exact absurd rfl q) | (intro q; exact absurd q g9) | (intro q; exact absurd g9 q) | (intro q; exact absurd q g20) | (intro q; exact absurd g20 q) | (intro q; exact absurd q g45) | (intro q; exact absurd g45 q) | (intro q; exact absurd q hc) | (intro q; exact absurd hc q) | intro _)
    all_goals first | (exact n9) | (exact n3) | (exact n300) | (exact trivial) | (with_reducible exact Nat.le_refl _) | decide | (exact (rfl : (0 : Nat) = 0)) | (exact Nat.le_of_ble_eq_true rfl) | ((with_reducible show False); contradiction) | (exact j)
end Mn3
/-! the law's main: its loop -/
section Mn4
variable {X : Xt} {Z : Kt} {s : Sg} {t k w a b : Nat}
theorem m_282 {u : Nat} (run : Rn tab_L_law 40000 FN FX Z) (hk : k < 64) (ha : a < 60000) (hb : b < 60000) (h : Rl k s) (hu : u ≤ 184 + 486 * k) (hw : w < 48)
    (nx : ∀ u s, u ≤ 184 + 486 * k + 36 → Rl (k + 1) s → Z 659 u (lW k w a b) [] s) : Z 282 u (lW k w a b) [] s := by
  by_cases c1 : w < 9
  · exact m_person run hk ha hb h hu c1 nx
  · by_cases c2 : w < 20
    · exact m_vow run hk ha hb h hu (by omega) nx
    · by_cases c3 : w < 45
      · exact m_cause run hk ha hb h hu (by omega) nx
      · exact m_pass run hk ha hb h hu (by omega) nx
set_option maxRecDepth 100000 in
set_option maxHeartbeats 4000000 in
theorem m_254 {u : Nat} (run : Rn tab_L_law 40000 FN FX Z) (hk : k < 64) (h : Rl k s) (hu : u ≤ 184 + 486 * k) (hw : w < 48)
    (nx : ∀ u s, u ≤ 184 + 486 * (k + 1) → Rl (k + 1) s → Z 195 u (lM ++ [(13, .inl 1), (14, .inl (nI (k + 1)))]) [] s) : Z 254 u (lM ++ [(13, .inl 1), (14, .inl (nI k)), (15, .inl (nI w))]) [] s := by
  have e1 : (3 : Int32) * nI k + 1 = nI (3 * k + 1) := by
    rw [show (3 : Int32) * nI k = nI (3 * k) from nIm 3 k]
    exact nI_add (3 * k) 1
  have e2 : (3 : Int32) * nI k + 2 = nI (3 * k + 2) := by
    rw [show (3 : Int32) * nI k = nI (3 * k) from nIm 3 k]
    exact nI_add (3 * k) 2
  have i1 := pa_cl (s := s) (X := FX) (y := 60000) (m := 60000) e1 (by omega) (by decide) rfl
  have i2 := pa_cl (s := s) (X := FX) (y := 60000) (m := 60000) e2 (by omega) (by decide) rfl
  refine run.go [282] 60 ?_
  repeat' (first | apply And.intro | (intro q; exact absurd q (by decide)) | (intro q; exact absurd (by decide) q) | (intro q; exact absurd rfl q) | intro _)
  all_goals first | (exact trivial) | (with_reducible exact Nat.le_refl _) | decide | (exact (rfl : (0 : Nat) = 0)) | (exact Nat.le_of_ble_eq_true rfl) | ((with_reducible show False); contradiction) | omega | skip
  refine ⟨_, i1, ?_⟩
  rintro r s1 ⟨rfl, a, ha, rfl⟩
  repeat' (first | apply And.intro | (intro q; exact absurd q (by decide)) | (intro q; exact absurd (by decide) q) | (intro q; exact absurd rfl q) | intro _)
  all_goals first | (exact trivial) | (with_reducible exact Nat.le_refl _) | decide | (exact (rfl : (0 : Nat) = 0)) | (exact Nat.le_of_ble_eq_true rfl) | ((with_reducible show False); contradiction) | omega | skip
  refine ⟨_, i2, ?_⟩
  rintro r s2 ⟨rfl, b, hb, rfl⟩
  repeat' (first | apply And.intro | (intro q; exact absurd q (by decide)) | (intro q; exact absurd (by decide) q) | (intro q; exact absurd rfl q) | intro _)
  all_goals first | (exact trivial) | (with_reducible exact Nat.le_refl _) | decide | (exact (rfl : (0 : Nat) = 0)) | (exact Nat.le_of_ble_eq_true rfl) | ((with_reducible show False); contradiction) | omega | (exact m_282 run hk ha hb h (by omega) hw (fun u s hu h => m_659 run hk ha hb h hu nx))
set_option maxRecDepth 100000 in
set_option maxHeartbeats 4000000 in
theorem m_step {u : Nat} (run : Rn tab_L_law 40000 FN FX Z) (hk : k < 64) (h : Rl k s) (hu : u ≤ 184 + 486 * k)
    (nx : ∀ u s, u ≤ 184 + 486 * (k + 1) → Rl (k + 1) s → Z 195 u (lM ++ [(13, .inl 1), (14, .inl (nI (k + 1)))]) [] s) : Z 195 u (lM ++ [(13, .inl 1), (14, .inl (nI k))]) [] s := by
  have h64 : ¬ (64 : Int32) ≤ nI k := nI_ge (b := 64) hk (by decide)
  have j := fun w hw => m_254 (u := u) (w := w) run hk h hu hw nx
  by_cases c1 : k < 8
  · have l8 : ¬ (8 : Int32) ≤ nI k := nI_ge (b := 8) c1 (by decide)
    have j := j 0 (by decide)
    rw [show nI 0 = (0 : Int32) from rfl] at j
    refine run.go [254] 60 ?_
    repeat' (first | apply And.intro | (intro q; exact absurd q (by decide)) | (intro q; exact absurd (by decide) q) | (intro q; exact absurd rfl q) | (intro q; exact absurd q h64) | (intro q; exact absurd h64 q) | (intro q; exact absurd q l8) | (intro q; exact absurd l8 q) | intro _)
    all_goals first | (exact trivial) | (with_reducible exact Nat.le_refl _) | decide | (exact (rfl : (0 : Nat) = 0)) | (exact Nat.le_of_ble_eq_true rfl) | ((with_reducible show False); contradiction) | (exact j)
  · have g8 : (8 : Int32) ≤ nI k := nI_le (a := 8) (by omega) (by omega)
    by_cases c2 : k < 11
    · have l11 : ¬ (11 : Int32) ≤ nI k := nI_ge (b := 11) c2 (by decide)
      have j := j 12 (by decide)
      rw [show nI 12 = (12 : Int32) from rfl] at j
      refine run.go [254] 60 ?_
      repeat' (first | apply And.intro | (intro q; exact absurd q (by decide)) | (intro q; exact absurd (by decide) q) | (intro q; exact absurd rfl q) | (intro q; exact absurd q h64) | (intro q; exact absurd h64 q) | (intro q; exact absurd q g8) | (intro q; exact absurd g8 q) | (intro q; exact absurd q l11) | (intro q; exact absurd l11 q) | intro _)
      all_goals first | (exact trivial) | (with_reducible exact Nat.le_refl _) | decide | (exact (rfl : (0 : Nat) = 0)) | (exact Nat.le_of_ble_eq_true rfl) | ((with_reducible show False); contradiction) | (exact j)
    · have g11 : (11 : Int32) ≤ nI k := nI_le (a := 11) (by omega) (by omega)
      by_cases c3 : k < 12
      · have l12 : ¬ (12 : Int32) ≤ nI k := nI_ge (b := 12) c3 (by decide)
        have j := j 22 (by decide)
        rw [show nI 22 = (22 : Int32) from rfl] at j
        refine run.go [254] 60 ?_
        repeat' (first | apply And.intro | (intro q; exact absurd q (by decide)) | (intro q; exact absurd (by decide) q) | (intro q; exact absurd rfl q) | (intro q; exact absurd q h64) | (intro q; exact absurd h64 q) | (intro q; exact absurd q g8) | (intro q; exact absurd g8 q) | (intro q; exact absurd q g11) | (intro q; exact absurd g11 q) | (intro q; exact absurd q l12) | (intro q; exact absurd l12 q) | intro _)
        all_goals first | (exact trivial) | (with_reducible exact Nat.le_refl _) | decide | (exact (rfl : (0 : Nat) = 0)) | (exact Nat.le_of_ble_eq_true rfl) | ((with_reducible show False); contradiction) | (exact j)
      · have g12 : (12 : Int32) ≤ nI k := nI_le (a := 12) (by omega) (by omega)
        have i1 := pa_cl (s := s) (X := FX) (y := 48) (m := 48) (show (3 : Int32) * nI k = nI (3 * k) from nIm 3 k) (by omega) (by decide) rfl
        refine run.go [254] 60 ?_
        repeat' (first | apply And.intro | (intro q; exact absurd q (by decide)) | (intro q; exact absurd (by decide) q) | (intro q; exact absurd rfl q) | (intro q; exact absurd q h64) | (intro q; exact absurd h64 q) | (intro q; exact absurd q g8) | (intro q; exact absurd g8 q) | (intro q; exact absurd q g11) | (intro q; exact absurd g11 q) | (intro q; exact absurd q g12) | (intro q; exact absurd g12 q) | intro _)
        all_goals first | (exact trivial) | (with_reducible exact Nat.le_refl _) | decide | (exact (rfl : (0 : Nat) = 0)) | (exact Nat.le_of_ble_eq_true rfl) | ((with_reducible show False); contradiction) | omega | skip
        refine ⟨_, i1, ?_⟩
        rintro r s1 ⟨rfl, w, hw, rfl⟩
        repeat' (first | apply And.intro | (intro q; exact absurd q (by decide)) | (intro q; exact absurd (by decide) q) | (intro q; exact absurd rfl q) | intro _)
        all_goals first | (exact trivial) | (with_reducible exact Nat.le_refl _) | decide | (exact (rfl : (0 : Nat) = 0)) | (exact Nat.le_of_ble_eq_true rfl) | ((with_reducible show False); contradiction) | omega | (exact j w hw)
set_option maxRecDepth 100000 in
set_option maxHeartbeats 4000000 in
theorem m_loop (run : Rn tab_L_law 40000 FN FX Z) (u : Nat) (s : Sg) (hu : u ≤ 184) (h : Rl 0 s) : Z 195 u (lM ++ [(13, .inl 1), (14, .inl (nI 0))]) [] s := by
  refine loop_up (n := 64) (P := fun k => ∀ u s, u ≤ 184 + 486 * k → Rl k s → Z 195 u (lM ++ [(13, .inl 1), (14, .inl (nI k))]) [] s) ?_ ?_ 0 (by decide) u s (by omega) h
  · intro u s hu _
    have h64 : (64 : Int32) ≤ nI 64 := by decide
    refine run.go [] 40 ?_
    repeat' (first | apply And.intro | (intro q; exact absurd q (by decide)) | (intro q; exact absurd (by decide) q) | (intro q; exact absurd rfl q) | (intro q; exact absurd q h64) | (intro q; exact absurd h64 q) | intro _)
    all_goals first | (exact trivial) | (with_reducible exact Nat.le_refl _) | decide | (exact (rfl : (0 : Nat) = 0)) | (exact Nat.le_of_ble_eq_true rfl) | ((with_reducible show False); contradiction) | omega
  · intro k hk ih u s hu h
    exact m_step run hk h hu ih
theorem main_ok (run : Rn tab_L_law 40000 FN FX Z) : Z 71 88 lM [] sta0 := by
  have e1 : (stB 16).1 = fun _ => 0 := stB_1 16
  refine m_fill run (m_open run (Rl_CI Rl_sta) (Rl_GI Rl_sta) (by rw [e1]) (by rw [e1]) fun u hu => ?_)
  have j := m_loop run u (stB 16) hu Rl_sta
  rw [show nI 0 = (0 : Int32) from rfl] at j
  exact j
end Mn4

