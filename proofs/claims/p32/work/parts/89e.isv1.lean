/-! the law's isVow: faculties, errors, healing
-/
def sp_L_isVow : Spc := fun av s N _ => match av with
  | [.inl (.inr (1, 0)), .inl (.inr (20, 0)), .inl (.inr (21, 0)), .inl (.inr (22, 0)), .inl (.inr (23, 0)), .inl (.inr (24, 0)), .inl (.inr (25, 0)), .inl (.inr (26, 0)), .inl (.inr (30, 0)), .inl (.inl what), .inl (.inl one), .inl (.inl two)] =>
    ∃ t w a b : Nat, t < 64 ∧ w < 6 ∧ a < 60000 ∧ b < 60000 ∧ what = nI w ∧ one = nI a ∧ two = nI b ∧ Rl t s ∧ ∀ s2, Rl (t + 1) s2 → N (some (aI 1)) s2
  | _ => False
abbrev lV (w a b : Nat) : LC := [(0, .inr (1, 0)), (1, .inr (20, 0)), (2, .inr (21, 0)), (3, .inr (22, 0)), (4, .inr (23, 0)), (5, .inr (24, 0)), (6, .inr (25, 0)), (7, .inr (26, 0)), (8, .inr (30, 0)), (9, .inl (nI w)), (10, .inl (nI a)), (11, .inl (nI b))]
section IsVs
variable {N : Nt} {X : Xt} {Z : Kt} {s : Sg} {t a b v : Nat} {fa mo : Nat → Nat} {T : Nat → Nat → Nat}
set_option maxRecDepth 100000 in
set_option maxHeartbeats 4000000 in
theorem isV_f69 {wt pl dd : Nat} (run : Rn tab_L_isVow 20 N X Z) (h : Rg t fa mo T (rows s) s) (hw : wt < 2 ∨ wt = 6) (hpl : pl < 9) (hdd : dd < 100000) (hN : ∀ s2, Rl (t + 1) s2 → N (some (aI 1)) s2) : Z 69 0 (lV 0 a b ++ [(12, .inl (nI wt)), (13, .inl (nI pl)), (14, .inl (nI dd))]) [] s := by
  have b0 : Ib 0 4 := nIb (k := 0) (by decide) (by decide)
  obtain ⟨dy, hdy, hd7, hd0⟩ := h.1.2.2.2.2.2
  have hd0' : s.2.1 30 0 0 = nI dy := hd0
  have l1 : (6 : Int32) ≤ nI wt ↔ 6 ≤ wt := nI_leI (a := 6) (by decide) (by omega)
  have l2 : (8 : Int32) ≤ nI pl ↔ 8 ≤ pl := nI_leI (a := 8) (by decide) (by omega)
  have l3 : (10001 : Int32) ≤ nI dd ↔ 10001 ≤ dd := nI_leI (a := 10001) (by decide) (by omega)
  have bad : ¬ (wt < 6 ∧ pl < 8 ∧ dd < 10001) → Z 98 0 (lV 0 a b ++ [(12, .inl (nI wt)), (13, .inl (nI pl)), (14, .inl (nI dd)), (15, .inl 0)]) [] s := by
    intro hc
    have g := fac_2 (X := X) (Rl_of h) (w := wt) (pl := pl) (d := dd) (by omega) (by omega) hdd hc
    refine run.go [] 60 ?_
    repeat' (first | apply And.intro | (intro q; exact absurd q (by decide)) | (intro q; exact absurd (by decide) q) | (intro q; exact absurd rfl q) | intro _)
    all_goals first | (exact trivial) | (with_reducible exact Nat.le_refl _) | decide | (exact (rfl : (0 : Nat) = 0)) | (exact Nat.le_of_ble_eq_true rfl) | ((with_reducible show False); contradiction) | skip
    refine ⟨_, g, ?_⟩
    rintro r s2 ⟨rfl, h2⟩
    repeat' (first | apply And.intro | (intro q; exact absurd q (by decide)) | (intro q; exact absurd (by decide) q) | (intro q; exact absurd rfl q) | intro _)
    all_goals first | (exact trivial) | (with_reducible exact Nat.le_refl _) | decide | (exact (rfl : (0 : Nat) = 0)) | (exact Nat.le_of_ble_eq_true rfl) | ((with_reducible show False); contradiction) | (exact hN s2 (Rl_mono (by omega) h2))
  by_cases c1 : 6 ≤ wt
  · have e1 := l1.mpr c1
    have j := bad (by omega)
    refine run.go [98] 60 ?_
    repeat' (first | apply And.intro | (intro q; exact absurd q (by decide)) | (intro q; exact absurd (by decide) q) | (intro q; exact absurd rfl q) | (intro q; exact absurd q e1) | (intro q; exact absurd e1 q) | intro _)
    all_goals first | (exact trivial) | (with_reducible exact Nat.le_refl _) | decide | (exact (rfl : (0 : Nat) = 0)) | (exact Nat.le_of_ble_eq_true rfl) | ((with_reducible show False); contradiction) | (exact j)
  · have e1 : ¬ _ := fun w => c1 (l1.mp w)
    by_cases c2 : 8 ≤ pl
    · have e2 := l2.mpr c2
      have j := bad (by omega)
      refine run.go [98] 60 ?_
      repeat' (first | apply And.intro | (intro q; exact absurd q (by decide)) | (intro q; exact absurd (by decide) q) | (intro q; exact absurd rfl q) | (intro q; exact absurd q e1) | (intro q; exact absurd e1 q) | (intro q; exact absurd q e2) | (intro q; exact absurd e2 q) | intro _)
      all_goals first | (exact trivial) | (with_reducible exact Nat.le_refl _) | decide | (exact (rfl : (0 : Nat) = 0)) | (exact Nat.le_of_ble_eq_true rfl) | ((with_reducible show False); contradiction) | (exact j)
    · have e2 : ¬ _ := fun w => c2 (l2.mp w)
      by_cases c3 : 10001 ≤ dd
      · have e3 := l3.mpr c3
        have j := bad (by omega)
        refine run.go [98] 60 ?_
        repeat' (first | apply And.intro | (intro q; exact absurd q (by decide)) | (intro q; exact absurd (by decide) q) | (intro q; exact absurd rfl q) | (intro q; exact absurd q e1) | (intro q; exact absurd e1 q) | (intro q; exact absurd q e2) | (intro q; exact absurd e2 q) | (intro q; exact absurd q e3) | (intro q; exact absurd e3 q) | intro _)
        all_goals first | (exact trivial) | (with_reducible exact Nat.le_refl _) | decide | (exact (rfl : (0 : Nat) = 0)) | (exact Nat.le_of_ble_eq_true rfl) | ((with_reducible show False); contradiction) | (exact j)
      · have e3 : ¬ _ := fun w => c3 (l3.mp w)
        have e8 : (8 : Int32) * nI wt + nI pl = nI (8 * wt + pl) := by rw [show (8 : Int32) = nI 8 from rfl, nIm, nI_add]
        have c8 : ((8 : Int32) * nI wt + nI pl).toNatClampNeg = 8 * wt + pl := by rw [e8]; exact nI_clamp (by omega)
        have b8 : Ib ((8 : Int32) * nI wt + nI pl) 64 := by rw [e8]; exact nIb (by omega) (by decide)
        have g := fac_0 (X := X) h (w := wt) (pl := pl) (d := dd) (by omega) (by omega) (by omega) hd0' hd7
        rw [← c8, ← hd0'] at g
        refine run.go [] 90 ?_
        repeat' (first | apply And.intro | (intro q; exact absurd q (by decide)) | (intro q; exact absurd (by decide) q) | (intro q; exact absurd rfl q) | (intro q; exact absurd q e1) | (intro q; exact absurd e1 q) | (intro q; exact absurd q e2) | (intro q; exact absurd e2 q) | (intro q; exact absurd q e3) | (intro q; exact absurd e3 q) | intro _)
        all_goals first | (exact b8) | (exact b0) | (exact trivial) | (with_reducible exact Nat.le_refl _) | decide | (exact (rfl : (0 : Nat) = 0)) | (exact Nat.le_of_ble_eq_true rfl) | ((with_reducible show False); contradiction) | skip
        refine ⟨_, g, ?_⟩
        rintro r s2 ⟨rfl, h2⟩
        repeat' (first | apply And.intro | (intro q; exact absurd q (by decide)) | (intro q; exact absurd (by decide) q) | (intro q; exact absurd rfl q) | intro _)
        all_goals first | (exact trivial) | (with_reducible exact Nat.le_refl _) | decide | (exact (rfl : (0 : Nat) = 0)) | (exact Nat.le_of_ble_eq_true rfl) | ((with_reducible show False); contradiction) | (exact hN s2 (Rl_mono (by omega) h2))
set_option maxRecDepth 100000 in
set_option maxHeartbeats 4000000 in
theorem isV_fac (run : Rn tab_L_isVow 20 N X Z) (h : Rg t fa mo T (rows s) s) (ha : a < 60000) (hb : b < 60000) (hN : ∀ s2, Rl (t + 1) s2 → N (some (aI 1)) s2) : Z 0 0 (lV 0 a b) [] s := by
  have e9 : irm (nI b) 9 = nI (b % 9) := irmN (d := 9) (by omega) (by decide) (by decide)
  have j67 : ∀ wt dd, (wt < 2 ∨ wt = 6) → dd < 100000 → Z 67 0 (lV 0 a b ++ [(12, .inl (nI wt)), (13, .inl (nI (b % 9)))]) [aI (nI dd)] s := by
    intro wt dd h1 h2
    have j := isV_f69 (a := a) (b := b) run h h1 (Nat.mod_lt b (show 0 < 9 by decide)) h2 hN
    refine run.go [69] 60 ?_
    repeat' (first | apply And.intro | (intro q; exact absurd q (by decide)) | (intro q; exact absurd (by decide) q) | (intro q; exact absurd rfl q) | intro _)
    all_goals first | (exact trivial) | (with_reducible exact Nat.le_refl _) | decide | (exact (rfl : (0 : Nat) = 0)) | (exact Nat.le_of_ble_eq_true rfl) | ((with_reducible show False); contradiction) | (exact j)
  have j24 : ∀ wt, (wt < 2 ∨ wt = 6) → Z 24 0 (lV 0 a b) [aI (nI wt)] s := by
    intro wt h1
    have k1 := j67 wt (a / 81 % 2 * 10001) h1 (by omega)
    have k2 := j67 wt (a / 9 % 400) h1 (by omega)
    have e1 : irm (nI a / 81) 2 * 10001 = nI (a / 81 % 2 * 10001) := by
      rw [show nI a / 81 = nI (a / 81) from divN (d := 81) (by omega) (by decide) (by decide), show irm (nI (a / 81)) 2 = nI (a / 81 % 2) from irmN (d := 2) (by omega) (by decide) (by decide)]
      exact nIm _ 10001
    have e2 : irm (nI a / 9) 400 = nI (a / 9 % 400) := by
      rw [show nI a / 9 = nI (a / 9) from divN (d := 9) (by omega) (by decide) (by decide)]
      exact irmN (d := 400) (by omega) (by decide) (by decide)
    rw [← e1, ← e9] at k1
    rw [← e2, ← e9] at k2
    refine run.go [67] 60 ?_
    repeat' (first | apply And.intro | (intro q; exact absurd q (by decide)) | (intro q; exact absurd (by decide) q) | (intro q; exact absurd rfl q) | intro _)
    all_goals first | (exact trivial) | (with_reducible exact Nat.le_refl _) | decide | (exact (rfl : (0 : Nat) = 0)) | (exact Nat.le_of_ble_eq_true rfl) | ((with_reducible show False); contradiction) | (exact k1) | (exact k2)
  have k1 := j24 6 (Or.inr rfl)
  have k2 := j24 (a % 2) (Or.inl (Nat.mod_lt a (by decide)))
  have e1 : irm (nI a) 2 = nI (a % 2) := irmN (d := 2) (by omega) (by decide) (by decide)
  rw [← e1] at k2
  rw [show nI 6 = (6 : Int32) from by decide] at k1
  refine run.go [24] 60 ?_
  repeat' (first | apply And.intro | (intro q; exact absurd q (by decide)) | (intro q; exact absurd (by decide) q) | (intro q; exact absurd rfl q) | intro _)
  all_goals first | (exact trivial) | (with_reducible exact Nat.le_refl _) | decide | (exact (rfl : (0 : Nat) = 0)) | (exact Nat.le_of_ble_eq_true rfl) | ((with_reducible show False); contradiction) | (exact k1) | (exact k2)
set_option maxRecDepth 100000 in
set_option maxHeartbeats 4000000 in
theorem isV_err (run : Rn tab_L_isVow 20 N X Z) (h : Rg t fa mo T (rows s) s) (ha : a < 60000) (hN : ∀ s2, Rl (t + 1) s2 → N (some (aI 1)) s2) : Z 153 0 (lV 1 a b) [] s := by
  have b16 : Ib 16 64 := nIb (k := 16) (by decide) (by decide)
  have e9 : irm (nI a) 9 = nI (a % 9) := irmN (d := 9) (by omega) (by decide) (by decide)
  obtain ⟨pl, hpl⟩ : ∃ pl, pl = a % 9 := ⟨_, rfl⟩
  have hpl9 : pl < 9 := by omega
  rw [← hpl] at e9
  have j166 : Z 166 0 (lV 1 a b ++ [(12, .inl (nI pl))]) [] s := by
    by_cases c : pl < 8
    · obtain ⟨f1, E, hE, e16, f2⟩ := h.2.2.2.2.1
      have e16' : s.2.1 22 0 16 = nI E := e16
      have l2 : ¬ (8 : Int32) ≤ nI pl := fun w => absurd ((nI_leI (a := 8) (by decide) (by omega)).mp w) (by omega)
      have g := err_0 (X := X) h c hE e16'
      obtain ⟨x1, x2⟩ := xor_b E hE pl c
      have p2 : 2 ^ pl < 256 := Nat.pow_lt_pow_right (n := 8) (by decide) c
      have eE : nI (E ^^^ 2 ^ pl) = s.2.1 22 0 16 ^^^ (1 <<< (nI pl &&& 31)) := by
        rw [e16', shlN (by omega), xorN (by omega) (by omega)]
      obtain ⟨F, hF⟩ : ∃ F, F = E ^^^ 2 ^ pl := ⟨_, rfl⟩
      rw [← hF] at g eE x1
      have n8 : ¬ nI pl = 8 := fun w => absurd ((nI_eq (b := 8) (by omega) (by decide)).mp w) (by omega)
      have ebit : (nI F >>> (nI pl &&& 31)) &&& 1 = nI (F / 2 ^ pl % 2) := bitN (by omega) (by omega)
      have g2 : sp_L_does [aR 1 0, aI 8, aI (nI pl), aI 0, aI 0, aI 0] (stS s 22 0 16 (s.2.1 22 0 16 ^^^ (1 <<< (nI pl &&& 31)))) (Dnr (nI (F / 2 ^ pl % 2)) (t + 1) 22 16 (nI F)) X := by
        rw [← eE]
        exact g
      refine run.go [] 90 ?_
      repeat' (first | apply And.intro | (intro q; exact absurd q (by decide)) | (intro q; exact absurd (by decide) q) | (intro q; exact absurd rfl q) | (intro q; exact absurd q l2) | (intro q; exact absurd l2 q) | intro _)
      all_goals first | (exact b16) | (exact trivial) | (with_reducible exact Nat.le_refl _) | decide | (exact (rfl : (0 : Nat) = 0)) | (exact Nat.le_of_ble_eq_true rfl) | ((with_reducible show False); contradiction) | skip
      refine ⟨_, g2, ?_⟩
      rintro r s2 ⟨rfl, h2, h3⟩
      have e : nI (F / 2 ^ pl % 2) = (s2.2.1 22 0 16 >>> (nI pl &&& 31)) &&& 1 := by rw [h3, ebit]
      repeat' (first | apply And.intro | (intro q; exact absurd q (by decide)) | (intro q; exact absurd (by decide) q) | (intro q; exact absurd rfl q) | (intro q; exact absurd q n8) | (intro q; exact absurd n8 q) | (intro q; exact absurd q e) | (intro q; exact absurd e q) | intro _)
      all_goals first | (exact b16) | (exact trivial) | (with_reducible exact Nat.le_refl _) | decide | (exact (rfl : (0 : Nat) = 0)) | (exact Nat.le_of_ble_eq_true rfl) | ((with_reducible show False); contradiction) | (exact hN s2 h2)
    · obtain rfl : pl = 8 := by omega
      have g := err_2 (X := X) (Rl_of h) (pl := 8) (by decide) (by decide)
      have es : stS s 22 0 16 (s.2.1 22 0 16 ^^^ 0) = s := Sg_same (Int32.xor_zero)
      have g2 : sp_L_does [aR 1 0, aI 8, aI (nI 8), aI 0, aI 0, aI 0] (stS s 22 0 16 (s.2.1 22 0 16 ^^^ 0)) (Dn (-2000000) t) X := by rw [es]; exact g
      refine run.go [] 90 ?_
      repeat' (first | apply And.intro | (intro q; exact absurd q (by decide)) | (intro q; exact absurd (by decide) q) | (intro q; exact absurd rfl q) | intro _)
      all_goals first | (exact b16) | (exact trivial) | (with_reducible exact Nat.le_refl _) | decide | (exact (rfl : (0 : Nat) = 0)) | (exact Nat.le_of_ble_eq_true rfl) | ((with_reducible show False); contradiction) | skip
      refine ⟨_, g2, ?_⟩
      rintro r s2 ⟨rfl, h2⟩
      repeat' (first | apply And.intro | (intro q; exact absurd q (by decide)) | (intro q; exact absurd (by decide) q) | (intro q; exact absurd rfl q) | intro _)
      all_goals first | (exact trivial) | (with_reducible exact Nat.le_refl _) | decide | (exact (rfl : (0 : Nat) = 0)) | (exact Nat.le_of_ble_eq_true rfl) | ((with_reducible show False); contradiction) | (exact hN s2 (Rl_mono (by omega) h2))
  rw [← e9] at j166
  refine run.go [166] 60 ?_
  repeat' (first | apply And.intro | (intro q; exact absurd q (by decide)) | (intro q; exact absurd (by decide) q) | (intro q; exact absurd rfl q) | intro _)
  all_goals first | (exact trivial) | (with_reducible exact Nat.le_refl _) | decide | (exact (rfl : (0 : Nat) = 0)) | (exact Nat.le_of_ble_eq_true rfl) | ((with_reducible show False); contradiction) | (exact j166)
/-- what is read of a vow -/
abbrev lVq (w a b v : Nat) (x y1 y2 y3 y4 y5 : Int32) : LC := lV w a b ++ [(12, .inl (nI v)), (13, .inl x), (14, .inl y1), (15, .inl y2), (16, .inl y3), (17, .inl y4), (18, .inl y5)]
set_option maxRecDepth 100000 in
set_option maxHeartbeats 4000000 in
theorem isV_no {w : Nat} (run : Rn tab_L_isVow 20 N X Z) (hR : Rl t s) (hw : w = 2 ∨ w = 3 ∨ w = 4 ∨ w = 5) (hv : ¬ v < s.1 1) (hv2 : v < 100) (hN : ∀ s2, Rl (t + 1) s2 → N (some (aI 1)) s2) : Z 807 0 (lVq w a b v 0 0 0 1 0 0) [] s := by
  have b16 : Ib 16 17 := nIb (k := 16) (by decide) (by decide)
  rcases hw with rfl | rfl | rfl | rfl
  · have g := fun x => heal_1 (X := X) (Rl_scr (a := 24) (c := 16) (v := x) (by omega) hR) hv hv2
    refine run.go [] 90 ?_
    repeat' (first | apply And.intro | (intro q; exact absurd q (by decide)) | (intro q; exact absurd (by decide) q) | (intro q; exact absurd rfl q) | intro _)
    all_goals first | (exact b16) | (exact trivial) | (with_reducible exact Nat.le_refl _) | decide | (exact (rfl : (0 : Nat) = 0)) | (exact Nat.le_of_ble_eq_true rfl) | ((with_reducible show False); contradiction) | skip
    refine ⟨_, g _, ?_⟩
    rintro r s2 ⟨rfl, h2⟩
    repeat' (first | apply And.intro | (intro q; exact absurd q (by decide)) | (intro q; exact absurd (by decide) q) | (intro q; exact absurd rfl q) | intro _)
    all_goals first | (exact trivial) | (with_reducible exact Nat.le_refl _) | decide | (exact (rfl : (0 : Nat) = 0)) | (exact Nat.le_of_ble_eq_true rfl) | ((with_reducible show False); contradiction) | (exact hN s2 (Rl_mono (by omega) h2))
  · have g := fun x => heal_1 (X := X) (Rl_scr (a := 24) (c := 16) (v := x) (by omega) hR) hv hv2
    refine run.go [] 90 ?_
    repeat' (first | apply And.intro | (intro q; exact absurd q (by decide)) | (intro q; exact absurd (by decide) q) | (intro q; exact absurd rfl q) | intro _)
    all_goals first | (exact b16) | (exact trivial) | (with_reducible exact Nat.le_refl _) | decide | (exact (rfl : (0 : Nat) = 0)) | (exact Nat.le_of_ble_eq_true rfl) | ((with_reducible show False); contradiction) | skip
    refine ⟨_, g _, ?_⟩
    rintro r s2 ⟨rfl, h2⟩
    repeat' (first | apply And.intro | (intro q; exact absurd q (by decide)) | (intro q; exact absurd (by decide) q) | (intro q; exact absurd rfl q) | intro _)
    all_goals first | (exact trivial) | (with_reducible exact Nat.le_refl _) | decide | (exact (rfl : (0 : Nat) = 0)) | (exact Nat.le_of_ble_eq_true rfl) | ((with_reducible show False); contradiction) | (exact hN s2 (Rl_mono (by omega) h2))
  · have g := grace_1 (X := X) hR hv hv2
    refine run.go [] 90 ?_
    repeat' (first | apply And.intro | (intro q; exact absurd q (by decide)) | (intro q; exact absurd (by decide) q) | (intro q; exact absurd rfl q) | intro _)
    all_goals first | (exact trivial) | (with_reducible exact Nat.le_refl _) | decide | (exact (rfl : (0 : Nat) = 0)) | (exact Nat.le_of_ble_eq_true rfl) | ((with_reducible show False); contradiction) | skip
    refine ⟨_, g, ?_⟩
    rintro r s2 ⟨rfl, h2⟩
    repeat' (first | apply And.intro | (intro q; exact absurd q (by decide)) | (intro q; exact absurd (by decide) q) | (intro q; exact absurd rfl q) | intro _)
    all_goals first | (exact trivial) | (with_reducible exact Nat.le_refl _) | decide | (exact (rfl : (0 : Nat) = 0)) | (exact Nat.le_of_ble_eq_true rfl) | ((with_reducible show False); contradiction) | (exact hN s2 (Rl_mono (by omega) h2))
  · have g := docu_1 (X := X) hR hv hv2
    refine run.go [] 90 ?_
    repeat' (first | apply And.intro | (intro q; exact absurd q (by decide)) | (intro q; exact absurd (by decide) q) | (intro q; exact absurd rfl q) | intro _)
    all_goals first | (exact trivial) | (with_reducible exact Nat.le_refl _) | decide | (exact (rfl : (0 : Nat) = 0)) | (exact Nat.le_of_ble_eq_true rfl) | ((with_reducible show False); contradiction) | skip
    refine ⟨_, g, ?_⟩
    rintro r s2 ⟨rfl, h2⟩
    repeat' (first | apply And.intro | (intro q; exact absurd q (by decide)) | (intro q; exact absurd (by decide) q) | (intro q; exact absurd rfl q) | intro _)
    all_goals first | (exact trivial) | (with_reducible exact Nat.le_refl _) | decide | (exact (rfl : (0 : Nat) = 0)) | (exact Nat.le_of_ble_eq_true rfl) | ((with_reducible show False); contradiction) | (exact hN s2 (Rl_mono (by omega) h2))
set_option maxRecDepth 100000 in
set_option maxHeartbeats 4000000 in
theorem isV_heal {w one oth pl lk st la q : Nat} {yl : Int32} (run : Rn tab_L_isVow 20 N X Z) (hw : w = 2 ∨ w = 3) (h : Rg t fa mo T (rows s) s) (hv : v < s.1 1) (hV : Vp s v one oth pl lk st la) (hl : Bv yl (lk = 1)) (hq : hnC s v = nI q) (hq2 : q < 32)
    (hN : ∀ s2, Rl (t + 1) s2 → N (some (aI 1)) s2) : Z 807 0 (lVq w a b v 1 (nI one) (nI oth) (nI st) yl (nI q)) [] s := by
  have hn := Rg_n h
  have h4 : ¬ (4 : Int32) ≤ nI w := nI_ge (b := 4) (by omega) (by decide)
  have hb := hV.1
  have cv : (nI v).toNatClampNeg = v := nI_clamp (by omega)
  have c1 : (nI one).toNatClampNeg = one := nI_clamp (by omega)
  have c2 : (nI oth).toNatClampNeg = oth := nI_clamp (by omega)
  have bv : Ib (nI v) 17 := nIb (by omega) (by decide)
  have b16 : Ib 16 17 := nIb (k := 16) (by decide) (by decide)
  have bo1 : Ib (nI one) 17 := nIb (by omega) (by decide)
  have bo2 : Ib (nI oth) 17 := nIb (by omega) (by decide)
  have zst : nI st = 0 ↔ st = 0 := n0 (by omega)
  have zq : nI q = 0 ↔ q = 0 := n0 (by omega)
  have bad : ¬ (lk = 1 ∧ st = 0 ∧ q = 0) → Z 857 0 (lVq w a b v 1 (nI one) (nI oth) (nI st) yl (nI q)) [aI 0] s := by
    intro hc
    have g := fun x => heal_3 (X := X) (Rl_scr (a := 24) (c := 16) (v := x) (by omega) (Rl_of h)) hv (by
      rintro ⟨z1, z2, z3⟩
      rw [show (stS s 24 0 16 x).2.1 13 v 6 = s.2.1 13 v 6 from rfl, hV.2.1.2.2.2.2.1] at z1
      rw [show (stS s 24 0 16 x).2.1 13 v 5 = s.2.1 13 v 5 from rfl, hV.2.1.2.2.2.1, n0 (by omega)] at z2
      rw [show hnC (stS s 24 0 16 x) v = hnC s v from hnC_fr (fun _ _ => rfl), hq] at z3
      exact hc ⟨by omega, zst.mp z1, zq.mp z3⟩)
    refine run.go [] 90 ?_
    repeat' (first | apply And.intro | (intro q; exact absurd q (by decide)) | (intro q; exact absurd (by decide) q) | (intro q; exact absurd rfl q) | intro _)
    all_goals first | (exact b16) | (exact trivial) | (with_reducible exact Nat.le_refl _) | decide | (exact (rfl : (0 : Nat) = 0)) | (exact Nat.le_of_ble_eq_true rfl) | ((with_reducible show False); contradiction) | skip
    refine ⟨_, g _, ?_⟩
    rintro r s2 ⟨rfl, h2⟩
    repeat' (first | apply And.intro | (intro q; exact absurd q (by decide)) | (intro q; exact absurd (by decide) q) | (intro q; exact absurd rfl q) | intro _)
    all_goals first | (exact trivial) | (with_reducible exact Nat.le_refl _) | decide | (exact (rfl : (0 : Nat) = 0)) | (exact Nat.le_of_ble_eq_true rfl) | ((with_reducible show False); contradiction) | (exact hN s2 (Rl_mono (by omega) h2))
  rcases hl with ⟨rfl, hl⟩ | ⟨rfl, hl⟩
  · by_cases c3 : st = 0
    · have e3 := zst.mpr c3
      by_cases c4 : q = 0
      · have e4 := zq.mpr c4
        obtain ⟨m1, m2⟩ := hV.2.2.2.2.2 c3
        have dead : ∀ i, i < s.1 0 → s.2.1 12 i 5 = 1 → irm (s.2.1 20 0 i / 64) 2 = 0 := by
          intro i hi z
          obtain ⟨ho, ri, od, ba, li, hP⟩ := Rg_p h hi
          obtain ⟨f1, f2⟩ := Rg_fm h hi
          have hpb := hP.1
          rw [hP.2.1.2.2.2.2] at z
          have li1 : li = 1 := (nI_eq (b := 1) (by omega) (by decide)).mp z
          rw [pR_de (Pp_pR hP (by omega) (by omega)), li1]
          rfl
        have d1 : irm (s.2.1 20 0 (nI one).toNatClampNeg / 64) 2 = 0 := by rw [c1]; exact dead one hb.1 m1
        have d2 : irm (s.2.1 20 0 (nI oth).toNatClampNeg / 64) 2 = 0 := by rw [c2]; exact dead oth hb.2.1 m2
        have g := heal_0 (X := X) h hv hV hl c3 (by rw [hq, c4]; rfl)
        have eu : s.2.1 24 0 v - 2048 = nI (pkV one oth pl 0 st la) := by
          rw [hV.2.2.1, show (2048 : Int32) = nI 2048 from rfl, pk_sub (by unfold pkV; omega)]
          congr 1
          unfold pkV
          omega
        rw [← eu] at g
        have j : Z 857 0 (lVq w a b v 1 (nI one) (nI oth) (nI st) 1 (nI q)) [aI 1] s := by
          have g2 : sp_L_does [aR 1 0, aI 10, aI (nI v), aI 0, aI 0, aI 0] (stS s 24 0 (nI v).toNatClampNeg (s.2.1 24 0 (nI v).toNatClampNeg - 2048)) (Dn 0 (t + 1)) X := by rw [cv]; exact g
          refine run.go [] 90 ?_
          repeat' (first | apply And.intro | (intro q; exact absurd q (by decide)) | (intro q; exact absurd (by decide) q) | (intro q; exact absurd rfl q) | intro _)
          all_goals first | (exact bv) | (exact trivial) | (with_reducible exact Nat.le_refl _) | decide | (exact (rfl : (0 : Nat) = 0)) | (exact Nat.le_of_ble_eq_true rfl) | ((with_reducible show False); contradiction) | skip
          refine ⟨_, g2, ?_⟩
          rintro r s2 ⟨rfl, h2⟩
          repeat' (first | apply And.intro | (intro q; exact absurd q (by decide)) | (intro q; exact absurd (by decide) q) | (intro q; exact absurd rfl q) | intro _)
          all_goals first | (exact trivial) | (with_reducible exact Nat.le_refl _) | decide | (exact (rfl : (0 : Nat) = 0)) | (exact Nat.le_of_ble_eq_true rfl) | ((with_reducible show False); contradiction) | (exact hN s2 (Rl_mono (by omega) h2))
        refine run.go [857] 90 ?_
        repeat' (first | apply And.intro | (intro q; exact absurd q (by decide)) | (intro q; exact absurd (by decide) q) | (intro q; exact absurd rfl q) | (intro q; exact absurd q h4) | (intro q; exact absurd h4 q) | (intro q; exact absurd q e3) | (intro q; exact absurd e3 q) | (intro q; exact absurd q e4) | (intro q; exact absurd e4 q) | (intro q; exact absurd q d1) | (intro q; exact absurd d1 q) | (intro q; exact absurd q d2) | (intro q; exact absurd d2 q) | intro _)
        all_goals first | (exact bo1) | (exact bo2) | (exact trivial) | (with_reducible exact Nat.le_refl _) | decide | (exact (rfl : (0 : Nat) = 0)) | (exact Nat.le_of_ble_eq_true rfl) | ((with_reducible show False); contradiction) | (exact j)
      · have e4 : ¬ _ := fun w => c4 (zq.mp w)
        have j := bad (fun w => c4 w.2.2)
        refine run.go [857] 90 ?_
        repeat' (first | apply And.intro | (intro q; exact absurd q (by decide)) | (intro q; exact absurd (by decide) q) | (intro q; exact absurd rfl q) | (intro q; exact absurd q h4) | (intro q; exact absurd h4 q) | (intro q; exact absurd q e3) | (intro q; exact absurd e3 q) | (intro q; exact absurd q e4) | (intro q; exact absurd e4 q) | intro _)
        all_goals first | (exact trivial) | (with_reducible exact Nat.le_refl _) | decide | (exact (rfl : (0 : Nat) = 0)) | (exact Nat.le_of_ble_eq_true rfl) | ((with_reducible show False); contradiction) | (exact j)
    · have e3 : ¬ _ := fun w => c3 (zst.mp w)
      have j := bad (fun w => c3 w.2.1)
      refine run.go [857] 90 ?_
      repeat' (first | apply And.intro | (intro q; exact absurd q (by decide)) | (intro q; exact absurd (by decide) q) | (intro q; exact absurd rfl q) | (intro q; exact absurd q h4) | (intro q; exact absurd h4 q) | (intro q; exact absurd q e3) | (intro q; exact absurd e3 q) | intro _)
      all_goals first | (exact trivial) | (with_reducible exact Nat.le_refl _) | decide | (exact (rfl : (0 : Nat) = 0)) | (exact Nat.le_of_ble_eq_true rfl) | ((with_reducible show False); contradiction) | (exact j)
  · have j := bad (fun w => hl w.1)
    refine run.go [857] 90 ?_
    repeat' (first | apply And.intro | (intro q; exact absurd q (by decide)) | (intro q; exact absurd (by decide) q) | (intro q; exact absurd rfl q) | (intro q; exact absurd q h4) | (intro q; exact absurd h4 q) | intro _)
    all_goals first | (exact trivial) | (with_reducible exact Nat.le_refl _) | decide | (exact (rfl : (0 : Nat) = 0)) | (exact Nat.le_of_ble_eq_true rfl) | ((with_reducible show False); contradiction) | (exact j)
end IsVs

