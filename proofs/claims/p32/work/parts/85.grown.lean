/-! what a list that takes in one more leaves of the counts -/
theorem pszS_2 {s : Sg} {a : Nat} : (pszS s a).2 = s.2 := rfl
theorem groS_2 {s : Sg} {a : Nat} : (groS s a).2 = s.2 := rfl
theorem addS_2 {s : Sg} {a : Nat} : (addS s a).2 = s.2 := by
  unfold addS
  rw [pszS_2, stC_2]
  split
  · exact groS_2
  · rfl
theorem gcap_ok {c : Nat} (h1 : ¬ c = 1) (h30 : c ≤ 30) : c + 1 ≤ gcap c ∧ gcap c ≤ 48 ∧ ¬ gcap c = 1 := by
  unfold gcap
  by_cases h0 : c = 0
  · rw [if_pos h0]; omega
  · rw [if_neg h0]; omega
/-- counts other than those of the list -/
theorem addS_o {s : Sg} {a c : Nat} (ha : a < 3) (h1 : ¬ c = a) (h3 : ¬ c = 3 + a) (h6 : ¬ c = 6 + a) (h9 : ¬ c = 9 + a) (hc : c < 14 ∨ c = 17 ∨ c = 18) : (addS s a).1 c = s.1 c := by
  unfold addS
  rw [pszS_ne h1 h6 h9, stC_ne h9]
  split
  · rcases hc with hc | hc
    · exact groS_ne h3 hc
    · unfold groS
      rw [setR_ne h3 (by omega), stC_ne (by omega), mk59_1 (by omega) (by omega) (by omega)]
  · rfl
theorem addS_14 {s : Sg} {a : Nat} (ha : a < 3) (h : s.1 14 = 0) : (addS s a).1 14 = 0 := by
  unfold addS
  rw [pszS_ne (by omega) (by omega) (by omega), stC_ne (by omega)]
  split
  · exact setR_14
  · exact h
theorem addS_a {s : Sg} {a : Nat} (ha : a < 3) : (addS s a).1 a = s.1 a + 1 := by
  unfold addS
  rw [pszS_a, stC_ne (by omega)]
  split
  · rw [groS_ne (by omega) (by omega)]
  · rfl
theorem addS_3 {s : Sg} {a : Nat} (ha : a < 3) : (addS s a).1 (3 + a) = if s.1 a = s.1 (3 + a) then gcap (s.1 (3 + a)) else s.1 (3 + a) := by
  unfold addS
  rw [pszS_ne (by omega) (by omega) (by omega), stC_ne (by omega)]
  split
  · exact groS_3 ha
  · rfl
theorem addS_6 {s : Sg} {a : Nat} : (addS s a).1 (6 + a) = 0 := pszS_6
theorem addS_9 {s : Sg} {a : Nat} : (addS s a).1 (9 + a) = 0 := pszS_9
theorem add_cnt {z s : Sg} {a : Nat} (ha : a < 3) (hz : ∀ c, ¬ c = 6 + a → z.1 c = s.1 c) (hG : GI s) (hg : Gd s a) (hn : s.1 a ≤ 30) : (addS z a).1 a = s.1 a + 1 ∧ (∀ b, b < 3 → ¬ b = a → (addS z a).1 b = s.1 b ∧ (addS z a).1 (3 + b) = s.1 (3 + b)) ∧
    ((addS z a).1 12 = s.1 12 ∧ (addS z a).1 17 = s.1 17 ∧ (addS z a).1 18 = s.1 18) ∧ GI (addS z a) ∧ Gd (addS z a) a := by
  have hG' := of_eq_true hG
  have hg' := of_eq_true hg
  have n3 : (addS z a).1 (3 + a) = if s.1 a = s.1 (3 + a) then gcap (s.1 (3 + a)) else s.1 (3 + a) := by rw [addS_3 ha, hz a (by omega), hz (3 + a) (by omega)]
  have n0 : (addS z a).1 a = s.1 a + 1 := by rw [addS_a ha, hz a (by omega)]
  have hc1 : ¬ s.1 (3 + a) = 1 ∧ s.1 (3 + a) ≤ 48 := by
    have h3 : a = 0 ∨ a = 1 ∨ a = 2 := by omega
    rcases h3 with rfl | rfl | rfl
    · exact ⟨hG'.2.2.2.2.1, hG'.2.2.2.1.1⟩
    · exact ⟨hG'.2.2.2.2.2.1, hG'.2.2.2.1.2.1⟩
    · exact ⟨hG'.2.2.2.2.2.2, hG'.2.2.2.1.2.2⟩
  have h3f : s.1 a + 1 ≤ (addS z a).1 (3 + a) ∧ (addS z a).1 (3 + a) ≤ 48 ∧ ¬ (addS z a).1 (3 + a) = 1 := by
    rw [n3]
    by_cases hf : s.1 a = s.1 (3 + a)
    · rw [if_pos hf, hf]
      exact gcap_ok hc1.1 (by omega)
    · rw [if_neg hf]
      have := hg'.1
      exact ⟨by omega, hc1.2, hc1.1⟩
  have ob : ∀ b, b < 3 → ¬ b = a → (addS z a).1 b = s.1 b ∧ (addS z a).1 (3 + b) = s.1 (3 + b) := fun b hb hne => ⟨by rw [addS_o ha hne (by omega) (by omega) (by omega) (by omega), hz b (by omega)], by rw [addS_o ha (by omega) (by omega) (by omega) (by omega) (by omega), hz _ (by omega)]⟩
  have o6 : ∀ b, b < 3 → s.1 (6 + b) = 0 → (addS z a).1 (6 + b) = 0 := fun b hb h => by
    by_cases e : b = a
    · rw [e]; exact addS_6
    · rw [addS_o ha (by omega) (by omega) (by omega) (by omega) (by omega), hz _ (by omega)]; exact h
  have o9 : ∀ b, b < 3 → s.1 (9 + b) = 0 → (addS z a).1 (9 + b) = 0 := fun b hb h => by
    by_cases e : b = a
    · rw [e]; exact addS_9
    · rw [addS_o ha (by omega) (by omega) (by omega) (by omega) (by omega), hz _ (by omega)]; exact h
  have o3 : ∀ b, b < 3 → (s.1 (3 + b) ≤ 48 ∧ ¬ s.1 (3 + b) = 1) → (addS z a).1 (3 + b) ≤ 48 ∧ ¬ (addS z a).1 (3 + b) = 1 := fun b hb h => by
    by_cases e : b = a
    · rw [e]; exact h3f.2
    · rw [(ob b hb e).2]; exact h
  refine ⟨n0, ob, ⟨by rw [addS_o ha (by omega) (by omega) (by omega) (by omega) (by omega), hz _ (by omega)], by rw [addS_o ha (by omega) (by omega) (by omega) (by omega) (by omega), hz _ (by omega)], by rw [addS_o ha (by omega) (by omega) (by omega) (by omega) (by omega), hz _ (by omega)]⟩, eq_true ⟨⟨o6 0 (by decide) hG'.1.1, o6 1 (by decide) hG'.1.2.1, o6 2 (by decide) hG'.1.2.2⟩, ⟨o9 0 (by decide) hG'.2.1.1, o9 1 (by decide) hG'.2.1.2.1, o9 2 (by decide) hG'.2.1.2.2⟩, addS_14 ha (by rw [hz 14 (by omega)]; exact hG'.2.2.1), ?_, ?_⟩, eq_true ⟨by rw [n0]; exact h3f.1, by have := h3f.2.1; omega⟩⟩
  · exact ⟨(o3 0 (by decide) ⟨hG'.2.2.2.1.1, hG'.2.2.2.2.1⟩).1, (o3 1 (by decide) ⟨hG'.2.2.2.1.2.1, hG'.2.2.2.2.2.1⟩).1, (o3 2 (by decide) ⟨hG'.2.2.2.1.2.2, hG'.2.2.2.2.2.2⟩).1⟩
  · exact ⟨(o3 0 (by decide) ⟨hG'.2.2.2.1.1, hG'.2.2.2.2.1⟩).2, (o3 1 (by decide) ⟨hG'.2.2.2.1.2.1, hG'.2.2.2.2.2.1⟩).2, (o3 2 (by decide) ⟨hG'.2.2.2.1.2.2, hG'.2.2.2.2.2.2⟩).2⟩
theorem Gd_o {s y : Sg} {b : Nat} (h1 : y.1 b = s.1 b) (h2 : y.1 (3 + b) = s.1 (3 + b)) (h : Gd s b) : Gd y b := by
  unfold Gd at h ⊢
  rw [h1, h2]
  exact h
theorem iC_up {s y : Sg} {k : Nat} {j : Int32} (hk : s.1 k ≤ y.1 k) (hb : y.1 k < 100) (h : iC s k j) : iC y k j := by
  have h' := of_eq_true h
  refine eq_true ⟨h'.1, ?_⟩
  obtain ⟨q, hq, rfl⟩ := iC_ex h (by omega)
  exact nI_lt (by omega) (by omega)
theorem iC_nI {y : Sg} {k q : Nat} (hq : q < y.1 k) (hb : y.1 k < 100) : iC y k (nI q) := eq_true ⟨Int32.not_lt.mp (nI_pos (by omega)), nI_lt hq (by omega)⟩

