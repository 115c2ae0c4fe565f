/-! class and law: kin -/
def kdgN (F H : Nat → Nat) : Nat → Nat
  | 0 => 100
  | k + 1 => if F k + H k < kdgN F H k then F k + H k else kdgN F H k
theorem dgR_N {f h : Nat → Int32} {F H : Nat → Nat} : ∀ k, (∀ j, j < k → f j = nI (F j) ∧ h j = nI (H j) ∧ F j ≤ 100 ∧ H j ≤ 100) → dgR f h k = nI (kdgN F H k) ∧ kdgN F H k ≤ 100
  | 0, _ => ⟨rfl, Nat.le_refl _⟩
  | k + 1, hf => by
    obtain ⟨ih, ihl⟩ := dgR_N (f := f) (h := h) (F := F) (H := H) k (fun j hj => hf j (by omega))
    obtain ⟨e1, e2, e3, e4⟩ := hf k (by omega)
    rw [dgR, kdgN, ih, e1, e2, nI_add]
    unfold mmn
    by_cases hlt : F k + H k < kdgN F H k
    · rw [if_pos (nI_lt hlt (by omega)), if_pos hlt]
      exact ⟨rfl, by omega⟩
    · rw [if_neg (nI_nlt (by omega) (by omega)), if_neg hlt]
      exact ⟨rfl, ihl⟩
/-- steps, as their own words say -/
def TT (n : Nat) (fa mo : Nat → Nat) (T : Nat → Nat → Nat) : Prop := ∀ i j, i < n → j < 24 → fa i ≤ i ∧ mo i ≤ i ∧ T i j = T1 fa mo T i j
theorem TT_le {n : Nat} {fa mo : Nat → Nat} {T : Nat → Nat → Nat} (hn : n ≤ 16) (h : TT n fa mo T) : ∀ i, i < n → ∀ j, j < 24 → T i j ≤ i ∨ T i j = 100 := by
  intro i
  induction i using Nat.strongRecOn with
  | _ i ih =>
    intro hi j hj
    obtain ⟨f1, f2, e⟩ := h i j hi hj
    have b : ∀ f, f ≤ i → tb T f j + 1 ≤ i ∨ tb T f j = 100 := fun f hf => by
      unfold tb
      by_cases h0 : f = 0
      · rw [if_pos h0]; exact Or.inr rfl
      · rw [if_neg h0]
        have := ih (f - 1) (by omega) (by omega) j hj
        omega
    have b1 := b _ f1
    have b2 := b _ f2
    rw [e]
    unfold T1 mn
    split
    · omega
    · split
      · omega
      · split <;> split <;> omega
def mnR (F : Nat → Nat) (T : Nat → Nat → Nat) (j : Nat) : Nat → Nat
  | 0 => F 0 + T 0 j
  | k + 1 => mn (mnR F T j k) (F (k + 1) + T (k + 1) j)
theorem le_mn {x a b : Nat} : x ≤ mn a b ↔ x ≤ a ∧ x ≤ b := by
  unfold mn
  split <;> omega
theorem le_mnR {F : Nat → Nat} {T : Nat → Nat → Nat} {x j : Nat} : ∀ k, x ≤ mnR F T j k ↔ ∀ i, i ≤ k → x ≤ F i + T i j
  | 0 => ⟨fun h i hi => by rw [show i = 0 by omega]; exact h, fun h => h 0 (Nat.le_refl _)⟩
  | k + 1 => by
    rw [mnR, le_mn, le_mnR k]
    constructor
    · rintro ⟨h1, h2⟩ i hi
      by_cases e : i = k + 1
      · rw [e]; exact h2
      · exact h1 i (by omega)
    · intro h
      exact ⟨fun i hi => h i (by omega), h _ (Nat.le_refl _)⟩
theorem eq_le {a b : Nat} (h : ∀ x, x ≤ a ↔ x ≤ b) : a = b := Nat.le_antisymm ((h a).mp (Nat.le_refl _)) ((h b).mpr (Nat.le_refl _))
theorem lnW_hi {fa mo : Nat → Nat} : ∀ (k : Nat) (F : Nat → Nat) (j : Nat), (∀ i, i ≤ k → fa i ≤ i ∧ mo i ≤ i) → k < j → lnW fa mo k F j = F j
  | 0, _, _, _, _ => rfl
  | k + 1, F, j, hf, hj => by
    obtain ⟨f1, f2⟩ := hf (k + 1) (Nat.le_refl _)
    rw [lnW, lnW_hi k _ j (fun i hi => hf i (by omega)) (by omega)]
    unfold stpK
    rw [if_neg (by omega), if_neg (by omega)]
theorem lnW_mn {n : Nat} {fa mo : Nat → Nat} {T : Nat → Nat → Nat} (hn : n ≤ 16) (h : TT n fa mo T) : ∀ (k : Nat) (F : Nat → Nat), k < n → (∀ j, F j ≤ 50) → ∀ j, j ≤ k → lnW fa mo k F j = mnR F T j k
  | 0, F, hk, hF, j, hj => by
    obtain rfl : j = 0 := by omega
    obtain ⟨-, -, e⟩ := h 0 0 hk (by decide)
    have e0 : T 0 0 = 0 := e.trans (if_pos rfl)
    show F 0 = F 0 + T 0 0
    omega
  | k + 1, F, hk, hF, j, hj => by
    obtain ⟨f1, f2, -⟩ := h (k + 1) 0 hk (by decide)
    have hfm : ∀ i, i ≤ k → fa i ≤ i ∧ mo i ≤ i := fun i hi => by
      obtain ⟨g1, g2, -⟩ := h i 0 (by omega) (by decide)
      exact ⟨g1, g2⟩
    have hF1 := stpK_le (k := k + 1) (pa := fa (k + 1)) hF
    have hF2 := stpK_le (k := k + 1) (pa := mo (k + 1)) hF1
    have hFk := hF (k + 1)
    have eK : stpK F (k + 1) (fa (k + 1)) (k + 1) = F (k + 1) := by unfold stpK; rw [if_neg (by omega)]
    have v : ∀ i, i ≤ k → stpK (stpK F (k + 1) (fa (k + 1))) (k + 1) (mo (k + 1)) i = mn (mn (F i) (if i + 1 = fa (k + 1) then F (k + 1) + 1 else 50)) (if i + 1 = mo (k + 1) then F (k + 1) + 1 else 50) := by
      intro i hi
      have h1 := hF i
      have e1 : stpK F (k + 1) (fa (k + 1)) i = mn (F i) (if i + 1 = fa (k + 1) then F (k + 1) + 1 else 50) := by
        unfold stpK mn
        by_cases c : i + 1 = fa (k + 1)
        · rw [if_pos (by omega), if_pos c]
        · rw [if_neg (by omega), if_neg c, if_neg (by omega)]
      have h2 := hF1 i
      rw [← e1]
      generalize stpK F (k + 1) (fa (k + 1)) = G at *
      unfold stpK mn
      by_cases c : i + 1 = mo (k + 1)
      · rw [if_pos (by omega), if_pos c, eK]
      · rw [if_neg (by omega), if_neg c, if_neg (by omega)]
    rw [lnW]
    by_cases hjk : j = k + 1
    · subst hjk
      rw [lnW_hi k _ _ hfm (by omega)]
      have e0 : T (k + 1) (k + 1) = 0 := by
        obtain ⟨-, -, e⟩ := h (k + 1) (k + 1) hk (by omega)
        exact e.trans (if_pos rfl)
      have e2 : stpK (stpK F (k + 1) (fa (k + 1))) (k + 1) (mo (k + 1)) (k + 1) = F (k + 1) := by
        generalize stpK F (k + 1) (fa (k + 1)) = G at *
        unfold stpK
        rw [if_neg (by omega)]
        exact eK
      rw [e2]
      refine eq_le fun x => ?_
      rw [mnR, le_mn, le_mnR, e0]
      constructor
      · intro hx
        refine ⟨fun i hi => ?_, hx⟩
        obtain ⟨-, -, e⟩ := h i (k + 1) (by omega) (by omega)
        have : T i (k + 1) = 100 := by
          rw [e]
          unfold T1
          rw [if_neg (by omega), if_pos (by omega)]
        omega
      · exact fun hx => hx.2
    · rw [lnW_mn hn h k _ (by omega) hF2 j (by omega)]
      obtain ⟨-, -, e⟩ := h (k + 1) j hk (by omega)
      have e3 : T (k + 1) j = mn 100 (mn (tb T (fa (k + 1)) j) (tb T (mo (k + 1)) j) + 1) := by
        rw [e]
        unfold T1
        rw [if_neg hjk, if_neg (by omega)]
      have ej : T j j = 0 := by
        obtain ⟨-, -, e⟩ := h j j (by omega) (by omega)
        exact e.trans (if_pos rfl)
      refine eq_le fun x => ?_
      rw [mnR, le_mn, le_mnR, le_mnR]
      constructor
      · intro hx
        have hxj := hx j (by omega)
        rw [ej] at hxj
        have h50 := hF2 j
        refine ⟨fun i hi => ?_, ?_⟩
        · have := hx i hi
          rw [v i hi] at this
          have m3 := (le_mn.mp (le_mn.mp (Nat.le_refl (mn (mn (F i) (if i + 1 = fa (k + 1) then F (k + 1) + 1 else 50)) (if i + 1 = mo (k + 1) then F (k + 1) + 1 else 50)))).1).1
          omega
        · rw [e3]
          have pf : ∀ f, f ≤ k + 1 → (f = fa (k + 1) ∨ f = mo (k + 1)) → x ≤ F (k + 1) + (tb T f j + 1) := by
            intro f hf hfm2
            unfold tb
            by_cases h0 : f = 0
            · rw [if_pos h0]; omega
            · rw [if_neg h0]
              have z := hx (f - 1) (by omega)
              rw [v (f - 1) (by omega)] at z
              unfold mn at z
              rcases hfm2 with rfl | rfl
              · rw [if_pos (show fa (k + 1) - 1 + 1 = fa (k + 1) by omega)] at z
                split at z <;> split at z <;> first | omega | (split at z <;> omega)
              · rw [if_pos (show mo (k + 1) - 1 + 1 = mo (k + 1) by omega)] at z
                split at z <;> split at z <;> first | omega | (split at z <;> omega)
          have p1 := pf _ f1 (Or.inl rfl)
          have p2 := pf _ f2 (Or.inr rfl)
          unfold mn
          split <;> split <;> omega
      · rintro ⟨hx, hxk⟩ i hi
        rw [e3] at hxk
        rw [v i hi]
        have hxi := hx i hi
        have hxj := hx j (by omega)
        rw [ej] at hxj
        have h50 := hF j
        have q1 : i + 1 = fa (k + 1) → tb T (fa (k + 1)) j = T i j := fun c => by
          unfold tb
          rw [if_neg (by omega), ← c]
          rfl
        have q2 : i + 1 = mo (k + 1) → tb T (mo (k + 1)) j = T i j := fun c => by
          unfold tb
          rw [if_neg (by omega), ← c]
          rfl
        have hxk2 : x ≤ F (k + 1) + (mn (tb T (fa (k + 1)) j) (tb T (mo (k + 1)) j) + 1) := by
          unfold mn at hxk ⊢
          split at hxk <;> split at hxk <;> (first | (split; omega; omega) | omega)
        have m1 : mn (tb T (fa (k + 1)) j) (tb T (mo (k + 1)) j) ≤ tb T (fa (k + 1)) j := by unfold mn; split <;> omega
        have m2 : mn (tb T (fa (k + 1)) j) (tb T (mo (k + 1)) j) ≤ tb T (mo (k + 1)) j := by unfold mn; split <;> omega
        have g1 : (if i + 1 = fa (k + 1) then F (k + 1) + 1 else 50) + T i j ≥ x := by
          by_cases c : i + 1 = fa (k + 1)
          · rw [if_pos c]; have := q1 c; omega
          · rw [if_neg c]; omega
        have g2 : (if i + 1 = mo (k + 1) then F (k + 1) + 1 else 50) + T i j ≥ x := by
          by_cases c : i + 1 = mo (k + 1)
          · rw [if_pos c]; have := q2 c; omega
          · rw [if_neg c]; omega
        generalize (if i + 1 = fa (k + 1) then F (k + 1) + 1 else 50) = A at *
        generalize (if i + 1 = mo (k + 1) then F (k + 1) + 1 else 50) = B at *
        unfold mn
        split <;> split <;> omega
/-- the law's lines are the class's steps -/
theorem lnF_T {n : Nat} {fa mo : Nat → Nat} {T : Nat → Nat → Nat} (hn : n ≤ 16) (h : TT n fa mo T) {i j : Nat} (hi : i < n) (hj : j < 24) : lnF fa mo i j = mn 50 (T i j) := by
  have hfm : ∀ q, q ≤ i → fa q ≤ q ∧ mo q ≤ q := fun q hq => by
    obtain ⟨g1, g2, -⟩ := h q 0 (by omega) (by decide)
    exact ⟨g1, g2⟩
  have h50 : ∀ q, ln0 i q ≤ 50 := fun q => by unfold ln0; split <;> omega
  unfold lnF
  by_cases hij : i < j
  · rw [lnW_hi i _ j hfm hij]
    obtain ⟨-, -, e⟩ := h i j hi hj
    have : T i j = 100 := by
      rw [e]
      unfold T1
      rw [if_neg (by omega), if_pos hij]
    rw [this]
    unfold ln0
    rw [if_neg (by omega)]
    rfl
  · rw [lnW_mn hn h i _ hi h50 j (by omega)]
    have ej : T j j = 0 := by
      obtain ⟨-, -, e⟩ := h j j (by omega) hj
      exact e.trans (if_pos rfl)
    refine eq_le fun x => ?_
    rw [le_mnR, le_mn]
    constructor
    · intro hx
      have z1 := hx j (by omega)
      have z2 := hx i (Nat.le_refl _)
      have z3 := h50 j
      have z4 : ln0 i i = 0 := if_pos rfl
      omega
    · rintro ⟨h1, h2⟩ q hq
      by_cases e : q = i
      · subst e
        have z4 : ln0 q q = 0 := if_pos rfl
        omega
      · have z4 : ln0 i q = 50 := if_neg e
        omega

