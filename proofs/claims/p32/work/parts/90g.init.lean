/-! class and law alike: at the start -/
def stB : Nat → Sg
  | 0 => sta0
  | k + 1 => stS (stB k) 21 0 (16 + k) (-1)
theorem stB_1 : ∀ k, (stB k).1 = fun _ => 0
  | 0 => rfl
  | k + 1 => stB_1 k
theorem stB_get {a b c : Nat} : ∀ k, (stB k).2.1 a b c = if a = 21 ∧ b = 0 ∧ 16 ≤ c ∧ c < 16 + k then -1 else sta0.2.1 a b c
  | 0 => by
    rw [if_neg (by omega)]
    rfl
  | k + 1 => by
    rw [stB, stS_get, stB_get k]
    by_cases h : a = 21 ∧ b = 0 ∧ c = 16 + k
    · rw [if_pos h, if_pos (by omega)]
    · rw [if_neg h]
      by_cases h2 : a = 21 ∧ b = 0 ∧ 16 ≤ c ∧ c < 16 + k
      · rw [if_pos h2, if_pos (by omega)]
      · rw [if_neg h2, if_neg (by omega)]
theorem CI_sta : CI sta0 := CI_mk9 (eq_true ⟨Nat.le_refl _, by decide⟩) (eq_true ⟨Nat.le_refl _, by decide⟩) (eq_true ⟨Nat.le_refl _, by decide⟩) (by decide) (fun v hv => absurd hv (Nat.not_lt_zero v)) (fun c hc => absurd hc (Nat.not_lt_zero c))
theorem GI_sta : GI sta0 := eq_true ⟨⟨rfl, rfl, rfl⟩, ⟨rfl, rfl, rfl⟩, rfl, ⟨by decide, by decide, by decide⟩, by decide, by decide, by decide⟩
theorem Rl_sta : Rl 0 (stB 16) := by
  have e1 : (stB 16).1 = sta0.1 := stB_1 16
  have n1 : ∀ k, (stB 16).1 k = 0 := fun k => by rw [stB_1]
  have o : ∀ a b c, ¬ a = 21 → (stB 16).2.1 a b c = sta0.2.1 a b c := fun a b c h => by rw [stB_get, if_neg (fun w => h w.1)]
  have z : ∀ a b c, ¬ a = 21 → ¬ a = 6 → (stB 16).2.1 a b c = 0 := fun a b c h h6 => by
    rw [o a b c h]
    show (if a = 6 then fR (fun _ => 0) (if b < 24 then 24 else 0) 100 else fun _ => 0) c = (0 : Int32)
    rw [if_neg h6]
  refine ⟨fun _ => 0, fun _ => 0, fun _ _ => 0, ⟨?_, ?_, ⟨n1 _, n1 _, n1 _⟩, ⟨by rw [n1]; decide, by rw [n1]; decide, by rw [n1]; decide⟩, ⟨?_, ?_, ?_⟩, 0, Nat.le_refl _, z _ _ _ (by decide) (by decide), z _ _ _ (by decide) (by decide)⟩,
    ⟨fun k hk => ?_, fun k _ hk => ?_⟩, fun k hk => ?_, ⟨fun k hk => ?_, fun k _ _ => ⟨z _ _ _ (by decide) (by decide), z _ _ _ (by decide) (by decide), fun j _ => z _ _ _ (by decide) (by decide)⟩⟩,
    ⟨fun w pl _ _ => (z _ _ _ (by decide) (by decide)).trans (z _ _ _ (by decide) (by decide)).symm, 0, by decide, z _ _ _ (by decide) (by decide), fun pl _ => ?_⟩,
    ⟨0, by decide, z _ _ _ (by decide) (by decide), fun j hj => absurd hj (Nat.not_lt_zero j), fun p q _ _ => ⟨0, 0, 0, ⟨by decide, by decide, by decide⟩, z _ _ _ (by decide) (by decide), ?_, ?_, ?_⟩⟩, ⟨fun i j hi _ => ?_, fun i j _ hi hj => ?_⟩⟩
  · exact CI_fr e1 (fun _ => o _ _ _ (by decide)) (fun _ => o _ _ _ (by decide)) (fun _ => o _ _ _ (by decide)) CI_sta
  · have h := GI_sta
    unfold GI at h ⊢
    rw [e1]
    exact h
  · show (stB 16).2.1 30 0 1 = _
    rw [n1, z _ _ _ (by decide) (by decide)]
    rfl
  · show (stB 16).2.1 30 0 2 = _
    rw [n1, z _ _ _ (by decide) (by decide)]
    rfl
  · show (stB 16).2.1 30 0 3 = _
    rw [n1, z _ _ _ (by decide) (by decide)]
    rfl
  · rw [n1] at hk
    exact absurd hk (Nat.not_lt_zero k)
  · show (stB 16).2.1 21 0 (16 + k) = -1
    rw [stB_get, if_pos (by omega)]
  · rw [n1] at hk
    exact absurd hk (Nat.not_lt_zero k)
  · rw [n1] at hk
    exact absurd hk (Nat.not_lt_zero k)
  · rw [z _ _ _ (by decide) (by decide), Nat.zero_div]
    rfl
  · exact ⟨fun w => absurd w (by decide), fun ⟨j, hj, _⟩ => absurd hj (Nat.not_lt_zero j)⟩
  · exact ⟨fun w => absurd w (by decide), fun ⟨j, hj, _⟩ => absurd hj (Nat.not_lt_zero j)⟩
  · exact ⟨fun w => absurd w (by decide), fun ⟨j, hj, _⟩ => absurd hj (Nat.not_lt_zero j)⟩
  · rw [n1] at hi
    exact absurd hi (Nat.not_lt_zero i)
  · rw [o _ _ _ (by decide)]
    show (if j < (if i < 24 then 24 else 0) then (100 : Int32) else 0) = 100
    rw [if_pos hi, if_pos hj]

