/-! the law's isPerson: rites, homes -/
section IsPs2
variable {N : Nt} {X : Xt} {Z : Kt} {s : Sg} {t a b p : Nat} {x : Int32}
set_option maxRecDepth 100000 in
set_option maxHeartbeats 4000000 in
theorem isP_rite {w : Nat} (run : Rn tab_L_isPerson 20 N X Z) (ht : t < 64) (hR : Rl t s) (hw : w < 2) (hb0 : b < 60000) (hb2 : b % 2 = 0) (hp : p ≤ s.1 0) (hx : Bv x (p < s.1 0)) (hN : ∀ s2, Rl (t + 1) s2 → N (some (aI 1)) s2) : Z 324 0 (lPp w a b p x) [] s := by
  have hn := Rl_n hR
  have cp : (nI p).toNatClampNeg = p := nI_clamp (by omega)
  have b20 : Ib (nI p) 17 := nIb (by omega) (by decide)
  have hge : ¬ (2 : Int32) ≤ nI w := nI_ge (b := 2) hw (by decide)
  obtain ⟨i, hi⟩ : ∃ i, i = b / 2 % 4 := ⟨_, rfl⟩
  have e1 : irm (nI b) 2 = 0 := by
    rw [show (2 : Int32) = nI 2 from rfl, irmN (by omega) (by decide) (by decide), hb2]; rfl
  have e2 : irm (nI b / 2) 4 = nI i := by
    rw [show (2 : Int32) = nI 2 from rfl, show (4 : Int32) = nI 4 from rfl, divN (by omega) (by decide) (by decide), irmN (by omega) (by decide) (by decide), ← hi]
  have j : Z 362 0 (lPp w a b p x ++ [(12, .inl 1), (13, .inl (nI i))]) [] s := by
    clear e1 e2
    by_cases hp2 : p < s.1 0
    · obtain rfl := Bv_1 hx hp2
      obtain ⟨fa, mo, T, h⟩ := hR
      by_cases hi3 : i < 3
      · obtain ⟨ho, ri, od, ba, li, hP⟩ := Rg_p h hp2
        obtain ⟨f1, f2⟩ := Rg_fm h hp2
        have hb9 := hP.1
        have hpr := Pp_pR hP (by omega) (by omega)
        have er := pR_ri hpr
        have g := rite_0 (X := X) h hp2 hi3 hP
        have hge3 : ¬ (3 : Int32) ≤ nI i := nI_ge (b := 3) hi3 (by decide)
        have eu : s.2.1 20 0 p + 8 * (nI i - nI ri) = nI (pkP ho i ba (1 - li) (fa p) (mo p)) := by
          have u := upd_i (A := ho + 32 * ba + 64 * (1 - li) + 128 * fa p + 4096 * mo p) (m := 8) (i := i) (r := ri)
          rw [hP.2.2.1, show (8 : Int32) = nI 8 from rfl]
          unfold pkP
          rw [show ho + 8 * ri + 32 * ba + 64 * (1 - li) + 128 * fa p + 4096 * mo p = ho + 32 * ba + 64 * (1 - li) + 128 * fa p + 4096 * mo p + 8 * ri by omega, u]
          congr 1
          omega
        have j2 : Z 423 0 (lPp w a b p 1 ++ [(12, .inl 1), (13, .inl (nI i)), (14, .inl 1)]) [aI (nI ri)] s := by
          refine run.go [] 80 ?_
          repeat' (first | apply And.intro | (intro q; exact absurd q (by decide)) | (intro q; exact absurd (by decide) q) | (intro q; exact absurd rfl q) | intro _)
          all_goals first | (exact b20) | (exact trivial) | (with_reducible exact Nat.le_refl _) | decide | (exact (rfl : (0 : Nat) = 0)) | (exact Nat.le_of_ble_eq_true rfl) | ((with_reducible show False); contradiction) | skip
          (try dsimp only)
          rw [cp, eu]
          refine ⟨_, g, ?_⟩
          rintro r s2 ⟨rfl, h2⟩
          repeat' (first | apply And.intro | (intro q; exact absurd q (by decide)) | (intro q; exact absurd (by decide) q) | (intro q; exact absurd rfl q) | intro _)
          all_goals first | (exact trivial) | (with_reducible exact Nat.le_refl _) | decide | (exact (rfl : (0 : Nat) = 0)) | (exact Nat.le_of_ble_eq_true rfl) | ((with_reducible show False); contradiction) | (exact hN s2 (Rl_mono (by omega) h2))
        refine run.go [423] 80 ?_
        repeat' (first | apply And.intro | (intro q; exact absurd q (by decide)) | (intro q; exact absurd (by decide) q) | (intro q; exact absurd rfl q) | (intro q; exact absurd q hge3) | (intro q; exact absurd hge3 q) | intro _)
        all_goals first | (exact b20) | (exact trivial) | (with_reducible exact Nat.le_refl _) | decide | (exact (rfl : (0 : Nat) = 0)) | (exact Nat.le_of_ble_eq_true rfl) | ((with_reducible show False); contradiction) | skip
        (try dsimp only)
        rw [cp, er]
        exact j2
      · have g := rite_2 (X := X) (Rl_of h) hp2 hi3 (by omega)
        have hge3 : (3 : Int32) ≤ nI i := Int32.not_lt.mp (nI_nlt (b := 3) (by omega) (by omega))
        refine run.go [] 80 ?_
        repeat' (first | apply And.intro | (intro q; exact absurd q (by decide)) | (intro q; exact absurd (by decide) q) | (intro q; exact absurd rfl q) | (intro q; exact absurd q hge3) | (intro q; exact absurd hge3 q) | intro _)
        all_goals first | (exact b20) | (exact trivial) | (with_reducible exact Nat.le_refl _) | decide | (exact (rfl : (0 : Nat) = 0)) | (exact Nat.le_of_ble_eq_true rfl) | ((with_reducible show False); contradiction) | skip
        refine ⟨_, g, ?_⟩
        rintro r s2 ⟨rfl, h2⟩
        repeat' (first | apply And.intro | (intro q; exact absurd q (by decide)) | (intro q; exact absurd (by decide) q) | (intro q; exact absurd rfl q) | intro _)
        all_goals first | (exact trivial) | (with_reducible exact Nat.le_refl _) | decide | (exact (rfl : (0 : Nat) = 0)) | (exact Nat.le_of_ble_eq_true rfl) | ((with_reducible show False); contradiction) | (exact hN s2 (Rl_mono (by omega) h2))
    · obtain rfl := Bv_0 hx hp2
      have g := rite_1 (X := X) (x := nI i) hR hp2 (by omega)
      refine run.go [] 80 ?_
      repeat' (first | apply And.intro | (intro q; exact absurd q (by decide)) | (intro q; exact absurd (by decide) q) | (intro q; exact absurd rfl q) | intro _)
      all_goals first | (exact trivial) | (with_reducible exact Nat.le_refl _) | decide | (exact (rfl : (0 : Nat) = 0)) | (exact Nat.le_of_ble_eq_true rfl) | ((with_reducible show False); contradiction) | skip
      refine ⟨_, g, ?_⟩
      rintro r s2 ⟨rfl, h2⟩
      repeat' (first | apply And.intro | (intro q; exact absurd q (by decide)) | (intro q; exact absurd (by decide) q) | (intro q; exact absurd rfl q) | intro _)
      all_goals first | (exact trivial) | (with_reducible exact Nat.le_refl _) | decide | (exact (rfl : (0 : Nat) = 0)) | (exact Nat.le_of_ble_eq_true rfl) | ((with_reducible show False); contradiction) | (exact hN s2 (Rl_mono (by omega) h2))
  refine run.go [362] 40 ?_
  repeat' (first | apply And.intro | (intro q; exact absurd q (by decide)) | (intro q; exact absurd (by decide) q) | (intro q; exact absurd rfl q) | (intro q; exact absurd q hge) | (intro q; exact absurd hge q) | (intro q; exact absurd q e1) | (intro q; exact absurd e1 q) | intro _)
  all_goals first | (exact trivial) | (with_reducible exact Nat.le_refl _) | decide | (exact (rfl : (0 : Nat) = 0)) | (exact Nat.le_of_ble_eq_true rfl) | ((with_reducible show False); contradiction) | (dsimp only; rw [e2]; exact j)
set_option maxRecDepth 100000 in
set_option maxHeartbeats 4000000 in
theorem isP_home {w : Nat} (run : Rn tab_L_isPerson 20 N X Z) (ht : t < 64) (hR : Rl t s) (hw : w < 2) (hb0 : b < 60000) (hb2 : b % 2 = 1) (hp : p ≤ s.1 0) (hx : Bv x (p < s.1 0)) (hN : ∀ s2, Rl (t + 1) s2 → N (some (aI 1)) s2) : Z 324 0 (lPp w a b p x) [] s := by
  have hn := Rl_n hR
  have cp : (nI p).toNatClampNeg = p := nI_clamp (by omega)
  have b20 : Ib (nI p) 17 := nIb (by omega) (by decide)
  have hge : ¬ (2 : Int32) ≤ nI w := nI_ge (b := 2) hw (by decide)
  obtain ⟨i, hi⟩ : ∃ i, i = b / 2 % 9 := ⟨_, rfl⟩
  have e1 : irm (nI b) 2 = 1 := by
    rw [show (2 : Int32) = nI 2 from rfl, irmN (by omega) (by decide) (by decide), hb2]; rfl
  have e1n : ¬ irm (nI b) 2 = 0 := by rw [e1]; decide
  have e2 : irm (nI b / 2) 9 = nI i := by
    rw [show (2 : Int32) = nI 2 from rfl, show (9 : Int32) = nI 9 from rfl, divN (by omega) (by decide) (by decide), irmN (by omega) (by decide) (by decide), ← hi]
  have j : Z 362 0 (lPp w a b p x ++ [(12, .inl 0), (13, .inl (nI i))]) [] s := by
    clear e1 e2 e1n
    by_cases hp2 : p < s.1 0
    · obtain rfl := Bv_1 hx hp2
      obtain ⟨fa, mo, T, h⟩ := hR
      by_cases hi3 : i < 8
      · obtain ⟨ho, ri, od, ba, li, hP⟩ := Rg_p h hp2
        obtain ⟨f1, f2⟩ := Rg_fm h hp2
        have hb9 := hP.1
        have hpr := Pp_pR hP (by omega) (by omega)
        have er := pR_ho hpr
        have g := home_0 (X := X) h hp2 hi3 hP
        have hge3 : ¬ (8 : Int32) ≤ nI i := nI_ge (b := 8) hi3 (by decide)
        have eu : s.2.1 20 0 p + 1 * (nI i - nI ho) = nI (pkP i ri ba (1 - li) (fa p) (mo p)) := by
          have u := upd_i (A := 8 * ri + 32 * ba + 64 * (1 - li) + 128 * fa p + 4096 * mo p) (m := 1) (i := i) (r := ho)
          rw [hP.2.2.1, show (1 : Int32) = nI 1 from rfl]
          unfold pkP
          rw [show ho + 8 * ri + 32 * ba + 64 * (1 - li) + 128 * fa p + 4096 * mo p = 8 * ri + 32 * ba + 64 * (1 - li) + 128 * fa p + 4096 * mo p + 1 * ho by omega, u]
          congr 1
          omega
        have j2 : Z 423 0 (lPp w a b p 1 ++ [(12, .inl 0), (13, .inl (nI i)), (14, .inl 1)]) [aI (nI ho)] s := by
          refine run.go [] 80 ?_
          repeat' (first | apply And.intro | (intro q; exact absurd q (by decide)) | (intro q; exact absurd (by decide) q) | (intro q; exact absurd rfl q) | intro _)
          all_goals first | (exact b20) | (exact trivial) | (with_reducible exact Nat.le_refl _) | decide | (exact (rfl : (0 : Nat) = 0)) | (exact Nat.le_of_ble_eq_true rfl) | ((with_reducible show False); contradiction) | skip
          (try dsimp only)
          rw [cp, eu]
          refine ⟨_, g, ?_⟩
          rintro r s2 ⟨rfl, h2⟩
          repeat' (first | apply And.intro | (intro q; exact absurd q (by decide)) | (intro q; exact absurd (by decide) q) | (intro q; exact absurd rfl q) | intro _)
          all_goals first | (exact trivial) | (with_reducible exact Nat.le_refl _) | decide | (exact (rfl : (0 : Nat) = 0)) | (exact Nat.le_of_ble_eq_true rfl) | ((with_reducible show False); contradiction) | (exact hN s2 (Rl_mono (by omega) h2))
        refine run.go [423] 80 ?_
        repeat' (first | apply And.intro | (intro q; exact absurd q (by decide)) | (intro q; exact absurd (by decide) q) | (intro q; exact absurd rfl q) | (intro q; exact absurd q hge3) | (intro q; exact absurd hge3 q) | intro _)
        all_goals first | (exact b20) | (exact trivial) | (with_reducible exact Nat.le_refl _) | decide | (exact (rfl : (0 : Nat) = 0)) | (exact Nat.le_of_ble_eq_true rfl) | ((with_reducible show False); contradiction) | skip
        (try dsimp only)
        rw [cp, er]
        exact j2
      · have g := home_2 (X := X) (Rl_of h) hp2 hi3 (by omega)
        have hge3 : (8 : Int32) ≤ nI i := Int32.not_lt.mp (nI_nlt (b := 8) (by omega) (by omega))
        refine run.go [] 80 ?_
        repeat' (first | apply And.intro | (intro q; exact absurd q (by decide)) | (intro q; exact absurd (by decide) q) | (intro q; exact absurd rfl q) | (intro q; exact absurd q hge3) | (intro q; exact absurd hge3 q) | intro _)
        all_goals first | (exact b20) | (exact trivial) | (with_reducible exact Nat.le_refl _) | decide | (exact (rfl : (0 : Nat) = 0)) | (exact Nat.le_of_ble_eq_true rfl) | ((with_reducible show False); contradiction) | skip
        refine ⟨_, g, ?_⟩
        rintro r s2 ⟨rfl, h2⟩
        repeat' (first | apply And.intro | (intro q; exact absurd q (by decide)) | (intro q; exact absurd (by decide) q) | (intro q; exact absurd rfl q) | intro _)
        all_goals first | (exact trivial) | (with_reducible exact Nat.le_refl _) | decide | (exact (rfl : (0 : Nat) = 0)) | (exact Nat.le_of_ble_eq_true rfl) | ((with_reducible show False); contradiction) | (exact hN s2 (Rl_mono (by omega) h2))
    · obtain rfl := Bv_0 hx hp2
      have g := home_1 (X := X) (x := nI i) hR hp2 (by omega)
      refine run.go [] 80 ?_
      repeat' (first | apply And.intro | (intro q; exact absurd q (by decide)) | (intro q; exact absurd (by decide) q) | (intro q; exact absurd rfl q) | intro _)
      all_goals first | (exact trivial) | (with_reducible exact Nat.le_refl _) | decide | (exact (rfl : (0 : Nat) = 0)) | (exact Nat.le_of_ble_eq_true rfl) | ((with_reducible show False); contradiction) | skip
      refine ⟨_, g, ?_⟩
      rintro r s2 ⟨rfl, h2⟩
      repeat' (first | apply And.intro | (intro q; exact absurd q (by decide)) | (intro q; exact absurd (by decide) q) | (intro q; exact absurd rfl q) | intro _)
      all_goals first | (exact trivial) | (with_reducible exact Nat.le_refl _) | decide | (exact (rfl : (0 : Nat) = 0)) | (exact Nat.le_of_ble_eq_true rfl) | ((with_reducible show False); contradiction) | (exact hN s2 (Rl_mono (by omega) h2))
  refine run.go [362] 40 ?_
  repeat' (first | apply And.intro | (intro q; exact absurd q (by decide)) | (intro q; exact absurd (by decide) q) | (intro q; exact absurd rfl q) | (intro q; exact absurd q hge) | (intro q; exact absurd hge q) | (intro q; exact absurd q e1n) | (intro q; exact absurd e1n q) | intro _)
  all_goals first | (exact trivial) | (with_reducible exact Nat.le_refl _) | decide | (exact (rfl : (0 : Nat) = 0)) | (exact Nat.le_of_ble_eq_true rfl) | ((with_reducible show False); contradiction) | (dsimp only; rw [e2]; exact j)
end IsPs2

