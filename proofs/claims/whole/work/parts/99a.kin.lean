/-! class and model alike: kin -/
def kdgN (F H : Nat → Nat) : Nat → Nat
  | 0 => 100
  | k + 1 => if F k + H k < kdgN F H k then F k + H k else kdgN F H k
def kkiN (F H : Nat → Nat) : Nat → Nat × Nat
  | 0 => (200, 0)
  | k + 1 => if 100 ≤ F k then kkiN F H k else if 100 ≤ H k then kkiN F H k else
    if F k + H k < (kkiN F H k).1 then (F k + H k, if F k = 0 ∨ H k = 0 then 1 else 0) else
    if F k + H k = (kkiN F H k).1 then ((kkiN F H k).1, if F k = 0 ∨ H k = 0 then 1 else (kkiN F H k).2) else kkiN F H k
theorem dgR_N {f h : Nat → Int32} {F H : Nat → Nat} : ∀ k, (∀ j, j < k → f j = nI (F j) ∧ h j = nI (H j) ∧ F j ≤ 100 ∧ H j ≤ 100) → dgR f h k = nI (kdgN F H k) ∧ kdgN F H k ≤ 100
  | 0, _ => ⟨rfl, Nat.le_refl _⟩
  | k + 1, hf => by
    obtain ⟨ih, ihl⟩ := dgR_N (f := f) (h := h) (F := F) (H := H) k (fun j hj => hf j (by omega))
    obtain ⟨e1, e2, e3, e4⟩ := hf k (by omega)
    rw [dgR, kdgN, ih, e1, e2, nI_add]
    unfold mmn
    by_cases hlt : F k + H k < kdgN F H k
    · rw [if_pos (nI_lt hlt (by omega)), if_pos hlt]
      exact ⟨rfl, by omega⟩
    · rw [if_neg (nI_nlt (by omega) (by omega)), if_neg hlt]
      exact ⟨rfl, ihl⟩
theorem kinR_N {f h : Nat → Int32} {F H : Nat → Nat} : ∀ k, (∀ j, j < k → f j = nI (F j) ∧ h j = nI (H j) ∧ F j ≤ 100 ∧ H j ≤ 100) → kinR f h k = (nI (kkiN F H k).1, nI (kkiN F H k).2) ∧ (kkiN F H k).1 ≤ 200 ∧ ((kkiN F H k).2 = 0 ∨ (kkiN F H k).2 = 1)
  | 0, _ => ⟨rfl, Nat.le_refl _, Or.inl rfl⟩
  | k + 1, hf => by
    obtain ⟨ih, ihl, ihf⟩ := kinR_N (f := f) (h := h) (F := F) (H := H) k (fun j hj => hf j (by omega))
    obtain ⟨e1, e2, e3, e4⟩ := hf k (by omega)
    obtain ⟨r, hr⟩ : ∃ r, r = kkiN F H k := ⟨_, rfl⟩
    rw [kinR, kkiN, ih, e1, e2, ← hr]
    rw [← hr] at ihl ihf
    have g1 : (100 : Int32) ≤ nI (F k) ↔ 100 ≤ F k := nIge (a := F k) (b := 100) (N := 1000) (by omega) (by omega) (by decide)
    have g2 : (100 : Int32) ≤ nI (H k) ↔ 100 ≤ H k := nIge (a := H k) (b := 100) (N := 1000) (by omega) (by omega) (by decide)
    have g3 : nI r.1 ≤ nI (F k + H k) ↔ r.1 ≤ F k + H k := nIge (N := 1000) (by omega) (by omega) (by decide)
    have g4 : nI (F k + H k) = nI r.1 ↔ F k + H k = r.1 := nI_eq (by omega) (by omega)
    have g5 : nI (F k) = 0 ↔ F k = 0 := nI_eq (a := F k) (b := 0) (by omega) (by omega)
    have g6 : nI (H k) = 0 ↔ H k = 0 := nI_eq (a := H k) (b := 0) (by omega) (by omega)
    have g7 : nI r.2 = 0 ↔ r.2 = 0 := nI_eq (a := r.2) (b := 0) (by omega) (by omega)
    unfold stepK
    simp only [g1, g2, nI_add, g3, g4, g5, g6, g7]
    by_cases c1 : 100 ≤ F k
    · rw [if_pos c1, if_pos c1]
      exact ⟨rfl, ihl, ihf⟩
    · rw [if_neg c1, if_neg c1]
      by_cases c2 : 100 ≤ H k
      · rw [if_pos c2, if_pos c2]
        exact ⟨rfl, ihl, ihf⟩
      · rw [if_neg c2, if_neg c2]
        by_cases c3 : F k + H k < r.1
        · have c3' : ¬ r.1 ≤ F k + H k := by omega
          rw [if_pos c3, if_neg c3', if_neg c3']
          refine ⟨?_, by show F k + H k ≤ 200; omega, ?_⟩
          · by_cases z1 : F k = 0
            · simp [z1]; rfl
            · by_cases z2 : H k = 0
              · simp [z1, z2]; rfl
              · simp [z1, z2]; rfl
          · by_cases z1 : F k = 0 ∨ H k = 0
            · exact Or.inr (if_pos z1)
            · exact Or.inl (if_neg z1)
        · have c3' : r.1 ≤ F k + H k := by omega
          rw [if_neg c3, if_pos c3', if_pos c3']
          by_cases c4 : F k + H k = r.1
          · rw [if_pos c4, if_pos c4]
            refine ⟨?_, ihl, ?_⟩
            · by_cases z1 : F k = 0
              · simp [z1]; rfl
              · by_cases z2 : H k = 0
                · simp [z1, z2]; rfl
                · rcases ihf with z3 | z3
                  · simp [z1, z2, z3]; rfl
                  · simp [z1, z2, z3]; rfl
            · by_cases z1 : F k = 0 ∨ H k = 0
              · exact Or.inr (if_pos z1)
              · show (if F k = 0 ∨ H k = 0 then 1 else r.2) = 0 ∨ (if F k = 0 ∨ H k = 0 then 1 else r.2) = 1
                rw [if_neg z1]; exact ihf
          · rw [if_neg c4, if_neg c4]
            refine ⟨?_, ihl, ihf⟩
            rcases ihf with z3 | z3
            · simp [z3]; rfl
            · simp [z3]; rfl
/-- the least degree and whether a line has it -/
theorem kkiN_ok {F H : Nat → Nat} : ∀ k, (∀ j, j < k → (F j ≤ 23 ∨ F j = 100) ∧ (H j ≤ 23 ∨ H j = 100)) →
    ((kkiN F H k).1 = 200 ∧ kdgN F H k = 100 ∧ ∀ j, j < k → ¬ (F j < 100 ∧ H j < 100)) ∨ ((kkiN F H k).1 = kdgN F H k ∧ kdgN F H k ≤ 46 ∧ (∀ j, j < k → kdgN F H k ≤ F j + H j) ∧
      (((kkiN F H k).2 = 1 ∧ ∃ j, j < k ∧ (F j < 100 ∧ H j < 100) ∧ F j + H j = kdgN F H k ∧ (F j = 0 ∨ H j = 0)) ∨ ((kkiN F H k).2 = 0 ∧ ∀ j, j < k → (F j < 100 ∧ H j < 100) → F j + H j = kdgN F H k → ¬ (F j = 0 ∨ H j = 0))))
  | 0, _ => Or.inl ⟨rfl, rfl, fun j hj => absurd hj (Nat.not_lt_zero j)⟩
  | k + 1, hf => by
    have ih := kkiN_ok (F := F) (H := H) k (fun j hj => hf j (by omega))
    obtain ⟨hF, hH⟩ := hf k (by omega)
    obtain ⟨r, hr⟩ : ∃ r, r = kkiN F H k := ⟨_, rfl⟩
    obtain ⟨d, hd⟩ : ∃ d, d = kdgN F H k := ⟨_, rfl⟩
    rw [kkiN, kdgN, ← hr, ← hd]
    rw [← hr, ← hd] at ih
    have sp : ∀ j, j < k + 1 → j = k ∨ j < k := fun j hj => by omega
    by_cases c1 : 100 ≤ F k
    · rw [if_pos c1]
      rcases ih with ⟨i1, i2, i3⟩ | ⟨i1, i2, i3, i4⟩
      · rw [if_neg (by omega)]
        refine Or.inl ⟨i1, i2, fun j hj => ?_⟩
        rcases sp j hj with rfl | hj
        · exact fun w => absurd w.1 (by omega)
        · exact i3 j hj
      · rw [if_neg (by omega)]
        refine Or.inr ⟨i1, i2, fun j hj => ?_, ?_⟩
        · rcases sp j hj with rfl | hj
          · omega
          · exact i3 j hj
        · rcases i4 with ⟨j1, j, j2, j3⟩ | ⟨j1, j2⟩
          · exact Or.inl ⟨j1, j, by omega, j3⟩
          · refine Or.inr ⟨j1, fun j hj => ?_⟩
            rcases sp j hj with rfl | hj
            · exact fun w => absurd w.1 (by omega)
            · exact j2 j hj
    · rw [if_neg c1]
      by_cases c2 : 100 ≤ H k
      · rw [if_pos c2]
        rcases ih with ⟨i1, i2, i3⟩ | ⟨i1, i2, i3, i4⟩
        · rw [if_neg (by omega)]
          refine Or.inl ⟨i1, i2, fun j hj => ?_⟩
          rcases sp j hj with rfl | hj
          · exact fun w => absurd w.2 (by omega)
          · exact i3 j hj
        · rw [if_neg (by omega)]
          refine Or.inr ⟨i1, i2, fun j hj => ?_, ?_⟩
          · rcases sp j hj with rfl | hj
            · omega
            · exact i3 j hj
          · rcases i4 with ⟨j1, j, j2, j3⟩ | ⟨j1, j2⟩
            · exact Or.inl ⟨j1, j, by omega, j3⟩
            · refine Or.inr ⟨j1, fun j hj => ?_⟩
              rcases sp j hj with rfl | hj
              · exact fun w => absurd w.2 (by omega)
              · exact j2 j hj
      · rw [if_neg c2]
        have hF' : F k ≤ 23 := by omega
        have hH' : H k ≤ 23 := by omega
        rcases ih with ⟨i1, i2, i3⟩ | ⟨i1, i2, i3, i4⟩
        · have g1 : F k + H k < 200 := by omega
          have g2 : F k + H k < 100 := by omega
          rw [i1, i2, if_pos g1, if_pos g2]
          refine Or.inr ⟨rfl, by omega, fun j hj => ?_, ?_⟩
          · rcases sp j hj with rfl | hj
            · omega
            · have := i3 j hj; omega
          · by_cases z : F k = 0 ∨ H k = 0
            · exact Or.inl ⟨if_pos z, k, by omega, ⟨by omega, by omega⟩, rfl, z⟩
            · refine Or.inr ⟨if_neg z, fun j hj w => ?_⟩
              rcases sp j hj with rfl | hj
              · exact fun _ => z
              · exact absurd w (i3 j hj)
        · rw [i1]
          by_cases c3 : F k + H k < d
          · rw [if_pos c3, if_pos c3]
            refine Or.inr ⟨rfl, by omega, fun j hj => ?_, ?_⟩
            · rcases sp j hj with rfl | hj
              · omega
              · have := i3 j hj; omega
            · by_cases z : F k = 0 ∨ H k = 0
              · exact Or.inl ⟨if_pos z, k, by omega, ⟨by omega, by omega⟩, rfl, z⟩
              · refine Or.inr ⟨if_neg z, fun j hj w e => ?_⟩
                rcases sp j hj with rfl | hj
                · exact z
                · have := i3 j hj; omega
          · rw [if_neg c3, if_neg c3]
            by_cases c4 : F k + H k = d
            · rw [if_pos c4]
              refine Or.inr ⟨rfl, i2, fun j hj => ?_, ?_⟩
              · rcases sp j hj with rfl | hj
                · omega
                · exact i3 j hj
              · by_cases z : F k = 0 ∨ H k = 0
                · exact Or.inl ⟨if_pos z, k, by omega, ⟨by omega, by omega⟩, c4, z⟩
                · show ((if F k = 0 ∨ H k = 0 then 1 else r.2) = 1 ∧ _) ∨ ((if F k = 0 ∨ H k = 0 then 1 else r.2) = 0 ∧ _)
                  rw [if_neg z]
                  rcases i4 with ⟨j1, j, j2, j3⟩ | ⟨j1, j2⟩
                  · exact Or.inl ⟨j1, j, by omega, j3⟩
                  · refine Or.inr ⟨j1, fun j hj => ?_⟩
                    rcases sp j hj with rfl | hj
                    · exact fun _ _ => z
                    · exact j2 j hj
            · rw [if_neg c4]
              refine Or.inr ⟨i1, i2, fun j hj => ?_, ?_⟩
              · rcases sp j hj with rfl | hj
                · omega
                · exact i3 j hj
              · rcases i4 with ⟨j1, j, j2, j3⟩ | ⟨j1, j2⟩
                · exact Or.inl ⟨j1, j, by omega, j3⟩
                · refine Or.inr ⟨j1, fun j hj => ?_⟩
                  rcases sp j hj with rfl | hj
                  · exact fun _ e => absurd e c4
                  · exact j2 j hj
section Kin
variable {D : Nat} {s : Sg}
theorem st_F (h : Rl D s) {p k : Nat} (hp : p < s.1 0) (hk : k < 24) : s.2.1 6 p k = nI (cl (s.2.1 6 p k)) ∧ (cl (s.2.1 6 p k) ≤ 23 ∨ cl (s.2.1 6 p k) = 100) ∧ (cl (s.2.1 6 p k) = 0 ↔ k = p) ∧ (s.1 0 ≤ k → cl (s.2.1 6 p k) = 100) := by
  have h24 := (Rl_n h).1
  obtain ⟨-, h9⟩ := h.2.2.2.2.2.2.2.1.1 p k hp hk
  have c100 : cl (100 : Int32) = 100 := by decide
  rcases h9 with ⟨e, h0⟩ | ⟨e, j, j1, j2, h0⟩ | ⟨e, h0⟩
  · rw [h0]
    exact ⟨by decide, Or.inl (by decide), ⟨fun _ => e, fun _ => by decide⟩, fun _ => by omega⟩
  · rw [h0, show cl (nI j) = j from nI_clamp (by omega)]
    exact ⟨rfl, Or.inl (by omega), ⟨fun _ => by omega, fun _ => by omega⟩, fun _ => by omega⟩
  · rw [h0, c100]
    exact ⟨by decide, Or.inr rfl, ⟨fun w => absurd w (by decide), fun w => absurd w e⟩, fun _ => rfl⟩
/-- the model's row is the class's -/
theorem mrow_eq (h : Rl D s) {p k : Nat} (hp : p < s.1 0) (hk : k < 24) : mrow s p k = s.2.1 6 p k := (h.2.2.2.2.2.2.2.1.1 p k hp hk).1
theorem kdgN_ext {F H : Nat → Nat} : ∀ a k, (∀ j, k ≤ j → j < k + a → 100 ≤ F j + H j) → kdgN F H k ≤ 100 → kdgN F H (k + a) = kdgN F H k
  | 0, k, _, _ => rfl
  | a + 1, k, h, hl => by
    have ih := kdgN_ext (F := F) (H := H) a k (fun j h1 h2 => h j h1 (by omega)) hl
    rw [← Nat.add_assoc, kdgN, ih, if_neg (by have := h (k + a) (by omega) (by omega); omega)]
theorem kin_eq (h : Rl D s) {p q : Nat} (hp : p < s.1 0) (hq : q < s.1 0) : (dgC s (nI p) (nI q) = 100 ∧ ¬ ilC s (nI p) (nI q) ∧ kinM s (nI p) (nI q) = -1) ∨
    ∃ r fl, r < 47 ∧ fl < 2 ∧ dgC s (nI p) (nI q) = nI r ∧ kinM s (nI p) (nI q) = nI (100 * r + fl) ∧ (ilC s (nI p) (nI q) ↔ fl = 1) := by
  have h24 := (Rl_n h).1
  have cp : cl (nI p) = p := nI_clamp (by omega)
  have cq : cl (nI q) = q := nI_clamp (by omega)
  obtain ⟨F, hF⟩ : ∃ F : Nat → Nat, F = fun k => cl (s.2.1 6 p k) := ⟨_, rfl⟩
  obtain ⟨H, hH⟩ : ∃ H : Nat → Nat, H = fun k => cl (s.2.1 6 q k) := ⟨_, rfl⟩
  have f1 : ∀ k, k < 24 → s.2.1 6 p k = nI (F k) ∧ (F k ≤ 23 ∨ F k = 100) ∧ (F k = 0 ↔ k = p) ∧ (s.1 0 ≤ k → F k = 100) := fun k hk => by rw [hF]; exact st_F h hp hk
  have f2 : ∀ k, k < 24 → s.2.1 6 q k = nI (H k) ∧ (H k ≤ 23 ∨ H k = 100) ∧ (H k = 0 ↔ k = q) ∧ (s.1 0 ≤ k → H k = 100) := fun k hk => by rw [hH]; exact st_F h hq hk
  have hb : ∀ j, j < 24 → s.2.1 6 p j = nI (F j) ∧ s.2.1 6 q j = nI (H j) ∧ F j ≤ 100 ∧ H j ≤ 100 := fun j hj => by
    obtain ⟨a1, a2, -⟩ := f1 j hj
    obtain ⟨b1, b2, -⟩ := f2 j hj
    exact ⟨a1, b1, by omega, by omega⟩
  obtain ⟨e1, e2⟩ := dgR_N (f := s.2.1 6 p) (h := s.2.1 6 q) (F := F) (H := H) 24 hb
  obtain ⟨e3, e4, e5⟩ := kinR_N (f := mrow s p) (h := mrow s q) (F := F) (H := H) (s.1 0) (fun j hj => by
    rw [mrow_eq h hp (by omega), mrow_eq h hq (by omega)]
    exact hb j (by omega))
  have e6 := kkiN_ok (F := F) (H := H) (s.1 0) (fun j hj => ⟨(f1 j (by omega)).2.1, (f2 j (by omega)).2.1⟩)
  obtain ⟨-, e7⟩ := dgR_N (f := s.2.1 6 p) (h := s.2.1 6 q) (F := F) (H := H) (s.1 0) (fun j hj => hb j (by omega))
  have e8 : kdgN F H 24 = kdgN F H (s.1 0) := by
    obtain ⟨a, ha⟩ : ∃ a, 24 = s.1 0 + a := ⟨24 - s.1 0, by omega⟩
    rw [ha]
    exact kdgN_ext a (s.1 0) (fun j h1 h2 => by have := (f1 j (by omega)).2.2.2 h1; omega) e7
  have dg : dgC s (nI p) (nI q) = nI (kdgN F H (s.1 0)) := by
    unfold dgC
    rw [cp, cq, e1, e8]
  have km : kinM s (nI p) (nI q) = kinV (nI (kkiN F H (s.1 0)).1, nI (kkiN F H (s.1 0)).2) := by
    unfold kinM
    rw [cp, cq, Rl_npm h, e3]
  -- the straight line
  have sF : s.2.1 6 p q = nI (F q) := (f1 q (by omega)).1
  have sH : s.2.1 6 q p = nI (H p) := (f2 p (by omega)).1
  have Fp : F p = 0 := (f1 p (by omega)).2.2.1.mpr rfl
  have Hq : H q = 0 := (f2 q (by omega)).2.2.1.mpr rfl
  have lF : F q ≤ 100 := (hb q (by omega)).2.2.1
  have lH : H p ≤ 100 := (hb p (by omega)).2.2.2
  have il : ilC s (nI p) (nI q) ↔ (¬ 100 ≤ (if H p < F q then H p else F q) ∧ (if H p < F q then H p else F q) = kdgN F H (s.1 0)) := by
    have em : mmn (s.2.1 6 p q) (s.2.1 6 q p) = nI (if H p < F q then H p else F q) := by
      unfold mmn
      rw [sF, sH]
      by_cases hlt : H p < F q
      · rw [if_pos (nI_lt hlt (by omega)), if_pos hlt]
      · rw [if_neg (nI_nlt (by omega) (by omega)), if_neg hlt]
    have hm : (if H p < F q then H p else F q) ≤ 100 := by split <;> omega
    unfold ilC
    rw [cp, cq, em, dg]
    rw [show ((100 : Int32) ≤ nI (if H p < F q then H p else F q)) ↔ 100 ≤ (if H p < F q then H p else F q) from nIge (b := 100) (N := 1000) (by omega) (by omega) (by decide), nI_eq (by omega) (by omega)]
  rcases e6 with ⟨i1, i2, i3⟩ | ⟨i1, i2, i3, i4⟩
  · left
    refine ⟨by rw [dg, i2]; rfl, fun w => ?_, by rw [km, i1]; rfl⟩
    obtain ⟨w1, w2⟩ := il.mp w
    rw [i2] at w2
    omega
  · right
    refine ⟨kdgN F H (s.1 0), (kkiN F H (s.1 0)).2, by omega, by omega, dg, ?_, ?_⟩
    · rw [km, i1]
      have hfin : ∀ r, r < 47 → ∀ fl, fl < 2 → kinV (nI r, nI fl) = nI (100 * r + fl) := by decide +kernel
      exact hfin _ (by omega) _ (by omega)
    · rw [il]
      have hp3 := i3 p hp
      have hq3 := i3 q hq
      rw [Fp] at hp3
      rw [Hq] at hq3
      rcases i4 with ⟨j1, j, j2, j3, j4, j5⟩ | ⟨j1, j2⟩
      · refine ⟨fun _ => j1, fun _ => ?_⟩
        rcases j5 with j5 | j5
        · have hjp := (f1 j (by omega)).2.2.1.mp j5
          subst hjp
          split <;> omega
        · have hjq := (f2 j (by omega)).2.2.1.mp j5
          subst hjq
          split <;> omega
      · refine ⟨fun w => ?_, fun w => absurd (j1.symm.trans w) (by decide)⟩
        exfalso
        obtain ⟨w1, w2⟩ := w
        by_cases hlt : H p < F q
        · rw [if_pos hlt] at w1 w2
          exact j2 p hp ⟨by omega, by omega⟩ (by omega) (Or.inl Fp)
        · rw [if_neg hlt] at w1 w2
          exact j2 q hq ⟨by omega, by omega⟩ (by omega) (Or.inr Hq)
theorem kin_fin : ∀ r, r < 47 → ∀ fl, fl < 2 → (nI r < 100 ∧ 100 * nI r + nI fl = nI (100 * r + fl) ∧ nI (100 * r + fl) / 100 = nI r ∧ nI (100 * r + fl) - nI (100 * r + fl) / 100 * 100 = nI fl ∧ ¬ nI (100 * r + fl) = -1) := by decide +kernel
theorem al_kin {p q : Int32} (h : Rl D s) : alI sp_L_kin [aR 1 0, aI p, aI q, aR 60 0] sp_X5_kin [aR 20 0, aI p, aI q] D s := by
  have hM := Rl_M h
  have hip := Rl_p h (p := p)
  have hiq := Rl_p h (p := q)
  refine ⟨rfl, Rl_CI h, fun hn => ⟨1, rfl, hM, f1_1 (fun w => hn ⟨hip.mpr w.1, hiq.mpr w.2⟩) (okI_th (by decide) h)⟩, fun hp => ?_⟩
  have hp' : isP s p ∧ isP s q := ⟨hip.mp hp.1, hiq.mp hp.2⟩
  obtain ⟨i, hi, rfl, ci⟩ := Rl_pn h hp.1
  obtain ⟨j, hj, rfl, cj⟩ := Rl_pn h hp.2
  rcases kin_eq h hi hj with ⟨d1, d2, d3⟩ | ⟨r, fl, hr, hfl, d1, d2, d3⟩
  · rw [d1]
    refine ⟨fun _ => ⟨0, rfl, hM, f1_0 hp' (okI_q h ?_)⟩, fun w => absurd w (by decide), fun w => absurd w (by decide)⟩
    exact d3.symm
  · obtain ⟨k1, k2, -⟩ := kin_fin r hr fl hfl
    rw [d1]
    refine ⟨fun w => absurd k1 w, fun _ w => ⟨0, rfl, hM, f1_0 hp' (okI_q h ?_)⟩, fun _ w => ⟨0, rfl, hM, f1_0 hp' (okI_q h ?_)⟩⟩
    · show 100 * nI r + 1 = kinM s (nI i) (nI j)
      have e := d3.mp w
      subst e
      rw [d2, ← k2]
      rfl
    · show 100 * nI r + 0 = kinM s (nI i) (nI j)
      have e : fl = 0 := by
        have : ¬ fl = 1 := fun z => w (d3.mpr z)
        omega
      subst e
      rw [d2, ← k2]
      rfl
theorem inn_eq {f f' : Nat → Int32} {far : Int32} : ∀ n k l, (∀ j, k ≤ j → j < k + n → f' j = f j) → inn f' far n k l = inn f far n k l
  | 0, k, l, _ => rfl
  | n + 1, k, l, h => by
    rw [inn, inn, h k (by omega) (by omega), inn_eq n (k + 1) (l + (-1)) (fun j h1 h2 => h j (by omega) (by omega)), inn_eq n (k + 1) l (fun j h1 h2 => h j (by omega) (by omega))]
theorem inn_tail {f : Nat → Int32} {far : Int32} : ∀ a n k l, (∀ j, k + n ≤ j → j < k + n + a → ¬ f j = far) → inn f far (n + a) k l = inn f far n k l
  | a, 0, k, l, h => by
    rw [Nat.zero_add]
    induction a generalizing k with
    | zero => rfl
    | succ a ih =>
      have e : inn f far (a + 1) k l = inn f far a (k + 1) l := by rw [inn, if_neg (h k (by omega) (by omega))]
      exact e.trans ((ih (k + 1) (fun j h1 h2 => h j (by omega) (by omega))).trans rfl)
  | a, n + 1, k, l, h => by
    rw [show n + 1 + a = (n + a) + 1 by omega, inn, inn, inn_tail a n (k + 1) (l + (-1)) (fun j h1 h2 => h j (by omega) (by omega)), inn_tail a n (k + 1) l (fun j h1 h2 => h j (by omega) (by omega))]
theorem outn_eq {f f' : Nat → Int32} {n a : Nat} : ∀ m d l, d + m ≤ 24 → (∀ j, j < n → f' j = f j) → (∀ j, n ≤ j → j < n + a → f j = 100) → outn f (n + a) m (nI d) l = outn f' n m (nI d) l
  | 0, d, l, _, _, _ => rfl
  | m + 1, d, l, hd, h1, h2 => by
    have e : inn f (nI d) (n + a) 0 l = inn f' (nI d) n 0 l := by
      rw [inn_tail a n 0 l (fun j k1 k2 => by
        rw [h2 j (by omega) (by omega)]
        intro w
        have := (nI_eq (a := 100) (b := d) (by omega) (by omega)).mp w
        omega), inn_eq n 0 l (fun j _ k2 => h1 j (by omega))]
    rw [outn, outn, e]
    cases inn f' (nI d) n 0 l with
    | inl k => rfl
    | inr l' =>
      show outn f (n + a) m (nI d + 1) l' = outn f' n m (nI d + 1) l'
      rw [nIs]
      exact outn_eq m (d + 1) l' (by omega) h1 h2
theorem al_ancestor {p r : Int32} (h : Rl D s) : alI sp_L_ancestor [aR 1 0, aI p, aI r, aR 60 0] sp_X5_ancestor [aR 20 0, aI p, aI r] D s := by
  have hM := Rl_M h
  have hip := Rl_p h (p := p)
  refine ⟨rfl, Rl_CI h, fun hn => ⟨1, rfl, hM, f1_1 (fun w => hn ⟨hip.mpr w.1, Int32.not_lt.mp w.2⟩) (okI_th (by decide) h)⟩, fun hp => ?_⟩
  have hp' : isP s p ∧ ¬ r < 0 := ⟨hip.mp hp.1, Int32.not_lt.mpr hp.2⟩
  obtain ⟨i, hi, rfl, ci⟩ := Rl_pn h hp.1
  refine ⟨0, rfl, hM, f1_0 hp' (okI_q h ?_)⟩
  show outn (s.2.1 6 (cl (nI i))) 24 23 1 r = outn (mrow s (cl (nI i))) (npm s) 23 1 r
  have h24 := (Rl_n h).1
  rw [ci, Rl_npm h]
  obtain ⟨a, ha⟩ : ∃ a, 24 = s.1 0 + a := ⟨24 - s.1 0, by omega⟩
  have key := outn_eq (f := s.2.1 6 i) (f' := mrow s i) (n := s.1 0) (a := a) 23 1 r (by decide) (fun j hj => mrow_eq h hi (by omega)) (fun j k1 k2 => by
    obtain ⟨e1, -, -, e2⟩ := st_F h (k := j) hi (by omega)
    rw [e1, e2 k1]
    rfl)
  rw [← ha] at key
  exact key
end Kin

