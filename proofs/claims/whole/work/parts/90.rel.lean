/-! class and model: the small bridges -/
theorem in_iff {n : Nat} (hn : n < 2 ^ 30) {p : Int32} : (0 ≤ p ∧ p < nI n) ↔ inR p 0 (nI n - 1) := by
  constructor
  · rintro ⟨h0, h1⟩
    have hnn : ¬ p < 0 := Int32.not_lt.mpr h0
    obtain ⟨j, hj, rfl⟩ := nI_of hnn
    have hjn := (nI_ltI hj (by omega)).mp h1
    refine ⟨hnn, ?_⟩
    obtain ⟨k, rfl⟩ : ∃ k, n = k + 1 := ⟨n - 1, by omega⟩
    rw [nI_pred]
    exact nI_nlt (by omega) (by omega)
  · rintro ⟨h0, h1⟩
    obtain ⟨j, hj, rfl⟩ := nI_of h0
    refine ⟨Int32.not_lt.mp h0, ?_⟩
    cases n with
    | zero =>
      refine absurd ?_ h1
      show nI 0 - 1 < nI j
      rw [Int32.lt_iff_toInt_lt, nI_toInt hj, show (nI 0 - 1).toInt = -1 from rfl]
      omega
    | succ k =>
      rw [nI_pred] at h1
      refine nI_lt ?_ (by omega)
      have h9 : ¬ k < j := fun hc => h1 (nI_lt hc hj)
      omega
theorem iC_isP {s : Sg} (h : s.2.1 20 0 1 = nI (s.1 0)) (hn : s.1 0 ≤ 24) {p : Int32} : iC s 0 p ↔ isP s p := by
  unfold isP
  rw [h, ← in_iff (by omega)]
  exact ⟨of_eq_true, eq_true⟩
theorem iC_isV {s : Sg} (h : s.2.1 20 0 12 = nI (s.1 1)) (hn : s.1 1 ≤ 30) {p : Int32} : iC s 1 p ↔ isV s p := by
  unfold isV
  rw [h, ← in_iff (by omega)]
  exact ⟨of_eq_true, eq_true⟩
theorem iC_isC {s : Sg} (h : s.2.1 20 0 21 = nI (s.1 2)) (hn : s.1 2 ≤ 30) {p : Int32} : iC s 2 p ↔ isC s p := by
  unfold isC
  rw [h, ← in_iff (by omega)]
  exact ⟨of_eq_true, eq_true⟩
theorem rg_iff {p a b : Int32} : inR p a b ↔ a ≤ p ∧ p ≤ b := ⟨fun h => ⟨Int32.not_lt.mp h.1, Int32.not_lt.mp h.2⟩, fun h => ⟨Int32.not_lt.mpr h.1, Int32.not_lt.mpr h.2⟩⟩
/-- the scalars and what keeps class and model within bounds; D: days gone at most -/
def R0 (D : Nat) (s : Sg) : Prop := CI s ∧ GI s ∧ MI s ∧ (s.1 12 = 0 ∧ s.1 17 = 0 ∧ s.1 0 ≤ 24 ∧ s.1 1 ≤ 30 ∧ s.1 2 ≤ 30) ∧
  (s.2.1 20 0 1 = nI (s.1 0) ∧ s.2.1 20 0 12 = nI (s.1 1) ∧ s.2.1 20 0 21 = nI (s.1 2)) ∧ ∃ d, d ≤ D ∧ s.2.1 1 0 7 = nI d ∧ s.2.1 20 0 0 = nI d
/-- persons, in both -/
def RPp (s : Sg) (p : Nat) : Prop := s.2.1 22 0 p = s.2.1 12 p 0 ∧ s.2.1 23 0 p = s.2.1 12 p 1 ∧ s.2.1 24 0 p = s.2.1 12 p 2 ∧ s.2.1 25 0 p = s.2.1 12 p 3 ∧ s.2.1 26 0 p = s.2.1 12 p 4 ∧ ((s.2.1 27 0 p = 0 ∧ s.2.1 12 p 5 = 1) ∨ (s.2.1 27 0 p = 1 ∧ s.2.1 12 p 5 = 0))
theorem MI_st {s : Sg} {t i j : Nat} {v : Int32} (h20 : ¬ (t = 20 ∧ i = 0 ∧ (j = 1 ∨ j = 12 ∨ j = 21))) : MI (stS s t i j v) = MI s := by
  unfold MI MI0
  rw [stS_get, if_neg (fun z => h20 ⟨z.1.symm, z.2.1.symm, Or.inl z.2.2.symm⟩), stS_get, if_neg (fun z => h20 ⟨z.1.symm, z.2.1.symm, Or.inr (Or.inl z.2.2.symm)⟩), stS_get, if_neg (fun z => h20 ⟨z.1.symm, z.2.1.symm, Or.inr (Or.inr z.2.2.symm)⟩)]
/-- a write that touches neither scalars nor vows' persons nor causes' vows -/
theorem R0_st {D : Nat} {s : Sg} {t i j : Nat} {v : Int32} (h1 : ¬ t = 1) (h20 : ¬ t = 20) (h13 : ¬ t = 13) (h14 : ¬ t = 14) (h : R0 D s) : R0 D (stS s t i j v) := by
  obtain ⟨a, b, c, d, e, f⟩ := h
  refine ⟨CI_st h13 h14 a, b, by rw [MI_st (fun z => h20 z.1)]; exact c, d, ?_, ?_⟩
  · rw [stS_get, if_neg (fun z => h20 z.1.symm), stS_get, if_neg (fun z => h20 z.1.symm), stS_get, if_neg (fun z => h20 z.1.symm)]
    exact e
  · rw [stS_get, if_neg (fun z => h1 z.1.symm), stS_get, if_neg (fun z => h20 z.1.symm)]
    exact f
theorem R0_th {D : Nat} {s : Sg} {k : Int32} (h : R0 D s) : R0 D (th s k) := by
  obtain ⟨a, b, c, d, e, f⟩ := h
  refine ⟨CI_st (by decide) (by decide) a, b, by rw [MI_th]; exact c, d, ?_, ?_⟩
  · rw [stS_get, if_neg (by decide), stS_get, if_neg (by decide), stS_get, if_neg (by decide)]
    exact e
  · rw [stS_get, if_neg (by decide), stS_get, if_neg (by decide)]
    exact f

