/-! class and law: kin, what hinders -/
section Kn
variable {F H : Nat → Nat}
theorem le_kdg {x : Nat} : ∀ k, x ≤ kdgN F H k ↔ x ≤ 100 ∧ ∀ c, c < k → x ≤ F c + H c
  | 0 => ⟨fun h => ⟨h, fun c hc => absurd hc (Nat.not_lt_zero c)⟩, fun h => h.1⟩
  | k + 1 => by
    have ih := le_kdg (x := x) k
    have e : kdgN F H (k + 1) = mn (kdgN F H k) (F k + H k) := rfl
    rw [e, le_mn, ih]
    constructor
    · rintro ⟨⟨h1, h2⟩, h3⟩
      refine ⟨h1, fun c hc => ?_⟩
      by_cases q : c = k
      · rw [q]; exact h3
      · exact h2 c (by omega)
    · rintro ⟨h1, h2⟩
      exact ⟨⟨h1, fun c hc => h2 c (by omega)⟩, h2 k (by omega)⟩
theorem le_best {x : Nat} : ∀ k, x ≤ bestN F H k ↔ x ≤ 100 ∧ ∀ c, c < k → F c < 50 → H c < 50 → x ≤ F c + H c
  | 0 => ⟨fun h => ⟨h, fun c hc => absurd hc (Nat.not_lt_zero c)⟩, fun h => h.1⟩
  | k + 1 => by
    have ih := le_best (x := x) k
    have e : x ≤ bestN F H (k + 1) ↔ x ≤ bestN F H k ∧ (F k < 50 → H k < 50 → x ≤ F k + H k) := by
      rw [bestN]
      split
      · rename_i h
        obtain ⟨h1, h2, h3⟩ := h
        exact ⟨fun z => ⟨by omega, fun _ _ => z⟩, fun z => z.2 h1 h2⟩
      · rename_i h
        exact ⟨fun z => ⟨z, fun h1 h2 => by
          have : ¬ F k + H k < bestN F H k := fun w => h ⟨h1, h2, w⟩
          omega⟩, fun z => z.1⟩
    rw [e, ih]
    constructor
    · rintro ⟨⟨h1, h2⟩, h3⟩
      refine ⟨h1, fun c hc => ?_⟩
      by_cases q : c = k
      · rw [q]; exact h3
      · exact h2 c (by omega)
    · rintro ⟨h1, h2⟩
      exact ⟨⟨h1, fun c hc => h2 c (by omega)⟩, h2 k (by omega)⟩
end Kn
section Kn2
variable {t : Nat} {fa mo : Nat → Nat} {T : Nat → Nat → Nat} {s : Sg}
theorem Rg_TT {r : Rw} (h : Rg t fa mo T r s) : TT (s.1 0) fa mo T := fun i j hi hj => ⟨(h.2.1.1 i hi).1, (h.2.1.1 i hi).2.1, (h.2.2.2.2.2.2.1 i j hi hj).2⟩
/-- the degree and whether in line, in class and law -/
theorem kin_cl {r : Rw} (h : Rg t fa mo T r s) {p q : Nat} (hp : p < s.1 0) (hq : q < s.1 0) : (dgC s (nI p) (nI q) = 100 ∧ ¬ ilC s (nI p) (nI q) ∧ kinV (lnF fa mo p) (lnF fa mo q) p q = -1) ∨
    ∃ dg il : Nat, dg ≤ 30 ∧ il < 2 ∧ dgC s (nI p) (nI q) = nI dg ∧ (ilC s (nI p) (nI q) ↔ il = 1) ∧ kinV (lnF fa mo p) (lnF fa mo q) p q = nI (100 * dg + il) := by
  have hn := (Rg_n h).1
  have hT := Rg_TT h
  have cp : cl (nI p) = p := clN (by omega)
  have cq : cl (nI q) = q := clN (by omega)
  have eT : ∀ i j, i < s.1 0 → j < 24 → s.2.1 6 i j = nI (T i j) := fun i j hi hj => (h.2.2.2.2.2.2.1 i j hi hj).1
  have bT : ∀ i, i < s.1 0 → ∀ j, j < 24 → T i j ≤ i ∨ T i j = 100 := TT_le hn hT
  have dg0 : dgC s (nI p) (nI q) = nI (kdgN (T p) (T q) 24) ∧ kdgN (T p) (T q) 24 ≤ 100 := by
    unfold dgC
    rw [cp, cq]
    refine dgR_N 24 (fun j hj => ⟨eT p j hp hj, eT q j hq hj, ?_, ?_⟩)
    · have := bT p hp j hj; omega
    · have := bT q hq j hj; omega
  have eL : ∀ i j, i < s.1 0 → j < 24 → lnF fa mo i j = mn 50 (T i j) := fun i j hi hj => lnF_T hn hT hi hj
  have eb : bestN (lnF fa mo p) (lnF fa mo q) 16 = kdgN (T p) (T q) 24 := by
    refine eq_le fun x => ?_
    rw [le_best, le_kdg]
    constructor
    · rintro ⟨h1, h2⟩
      refine ⟨h1, fun c hc => ?_⟩
      have b1 := bT p hp c hc
      have b2 := bT q hq c hc
      by_cases c16 : c < 16
      · have z := h2 c c16
        rw [eL p c hp hc, eL q c hq hc] at z
        unfold mn at z
        by_cases z1 : T p c < 50
        · by_cases z2 : T q c < 50
          · rw [if_pos z1, if_pos z2] at z
            exact z z1 z2
          · omega
        · omega
      · have e1 := (hT p c hp hc).2.2
        unfold T1 at e1
        rw [if_neg (by omega), if_pos (by omega)] at e1
        omega
    · rintro ⟨h1, h2⟩
      refine ⟨h1, fun c hc f1 f2 => ?_⟩
      have z := h2 c (by omega)
      rw [eL p c hp (by omega)] at f1 ⊢
      rw [eL q c hq (by omega)] at f2 ⊢
      unfold mn at f1 f2 ⊢
      split at f1 <;> split at f2 <;> simp_all <;> omega
  have il0 : ilC s (nI p) (nI q) ↔ mn (T p q) (T q p) < 100 ∧ mn (T p q) (T q p) = kdgN (T p) (T q) 24 := by
    have b1 := bT p hp q (by omega)
    have b2 := bT q hq p (by omega)
    have e : mmn (nI (T p q)) (nI (T q p)) = nI (mn (T p q) (T q p)) := by
      unfold mmn mn
      by_cases c : T q p < T p q
      · rw [if_pos c, if_pos (nI_lt c (by omega))]
      · rw [if_neg c, if_neg (nI_nlt (by omega) (by omega))]
    have hm : mn (T p q) (T q p) ≤ 100 := by unfold mn; split <;> omega
    unfold ilC
    rw [cp, cq, eT p q hp (by omega), eT q p hq (by omega), e, dg0.1, nI_eq (by omega) (by omega)]
    have e2 : (100 : Int32) ≤ nI (mn (T p q) (T q p)) ↔ 100 ≤ mn (T p q) (T q p) := nI_leI (a := 100) (by decide) (by omega)
    rw [e2, Nat.not_le]
  have low : ∀ c, c < 24 → kdgN (T p) (T q) 24 ≤ T p c + T q c := ((le_kdg 24).mp (Nat.le_refl (kdgN (T p) (T q) 24))).2
  have tpp : T p p = 0 := ((hT p p hp (by omega)).2.2).trans (if_pos rfl)
  have tqq : T q q = 0 := ((hT q q hq (by omega)).2.2).trans (if_pos rfl)
  have l1 := low p (by omega)
  have l2 := low q (by omega)
  have bpq := bT p hp q (by omega)
  have bqp := bT q hq p (by omega)
  by_cases hd : kdgN (T p) (T q) 24 = 100
  · refine Or.inl ⟨by rw [dg0.1, hd]; rfl, fun z => ?_, ?_⟩
    · have := il0.mp z
      omega
    · unfold kinV
      rw [eb, if_pos hd]
  · have h30 : kdgN (T p) (T q) 24 ≤ 30 := by
      refine Classical.byContradiction fun hc => ?_
      have : ∀ c, c < 24 → 100 ≤ T p c + T q c := fun c hc2 => by
        have b1 := bT p hp c hc2
        have b2 := bT q hq c hc2
        have := low c hc2
        omega
      have := (le_kdg (F := T p) (H := T q) 24).mpr ⟨Nat.le_refl 100, this⟩
      omega
    have eil : (lnF fa mo p q = kdgN (T p) (T q) 24 ∨ lnF fa mo q p = kdgN (T p) (T q) 24) ↔ (mn (T p q) (T q p) < 100 ∧ mn (T p q) (T q p) = kdgN (T p) (T q) 24) := by
      rw [eL p q hp (by omega), eL q p hq (by omega)]
      unfold mn
      split <;> split <;> split <;> omega
    refine Or.inr ⟨kdgN (T p) (T q) 24, if lnF fa mo p q = kdgN (T p) (T q) 24 ∨ lnF fa mo q p = kdgN (T p) (T q) 24 then 1 else 0, h30, by split <;> decide, dg0.1, ?_, ?_⟩
    · rw [il0, ← eil]
      split <;> simp_all
    · unfold kinV
      rw [eb, if_neg hd]
theorem sub_toInt {a b : Int32} (h1 : -2147483648 ≤ a.toInt - b.toInt) (h2 : a.toInt - b.toInt < 2147483648) : (a - b).toInt = a.toInt - b.toInt := by
  rw [Int32.toInt_sub]
  exact Int.bmod_eq_of_le (by omega) (by omega)
/-- the age of the younger, below some days -/
theorem aoy_lt {r : Rw} (h : Rg t fa mo T r s) {p q c : Nat} (ht : t ≤ 64) (hp : p < s.1 0) (hq : q < s.1 0) (hc : c < 10000) : aoy s (nI p) (nI q) < nI c ↔ (s.2.1 1 0 7 - s.2.1 12 p 0 < nI c ∨ s.2.1 1 0 7 - s.2.1 12 q 0 < nI c) := by
  have hn := (Rg_n h).1
  have cp : cl (nI p) = p := clN (by omega)
  have cq : cl (nI q) = q := clN (by omega)
  obtain ⟨d, hd, e1, -⟩ := h.1.2.2.2.2.2
  obtain ⟨_, _, _, _, _, -, -, -, -, b1, -⟩ := (h.2.1.1 p hp).2.2
  obtain ⟨_, _, _, _, _, -, -, -, -, b2, -⟩ := (h.2.1.1 q hq).2.2
  have ed : (nI d).toInt = d := nI_toInt (by omega)
  have ec : (nI c).toInt = c := nI_toInt (by omega)
  have s1 : (nI d - s.2.1 12 p 0).toInt = d - (s.2.1 12 p 0).toInt := by rw [sub_toInt (by rw [ed]; omega) (by rw [ed]; omega), ed]
  have s2 : (nI d - s.2.1 12 q 0).toInt = d - (s.2.1 12 q 0).toInt := by rw [sub_toInt (by rw [ed]; omega) (by rw [ed]; omega), ed]
  unfold aoy mx
  rw [cp, cq, e1]
  split
  · rename_i hl
    rw [Int32.lt_iff_toInt_lt] at hl
    simp only [Int32.lt_iff_toInt_lt, s1, s2, ec]
    omega
  · rename_i hl
    rw [Int32.lt_iff_toInt_lt] at hl
    simp only [Int32.lt_iff_toInt_lt, s1, s2, ec]
    omega
end Kn2

