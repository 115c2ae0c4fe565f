/-! class and model alike: at the start -/
theorem Rl_sta : Rl 0 sta0 := by
  refine ⟨⟨?_, ?_, ?_, ⟨rfl, rfl, Nat.zero_le _, Nat.zero_le _, Nat.zero_le _⟩, ⟨rfl, rfl, rfl⟩, 0, Nat.le_refl _, rfl, rfl⟩, fun q hq => absurd hq (Nat.not_lt_zero q), fun q _ => ⟨rfl, rfl, rfl, rfl⟩, fun q hq => absurd hq (Nat.not_lt_zero q), fun a _ => rfl, fun w a _ _ => rfl, fun p q _ _ => ⟨show (0 : Int32) = D3 0 0 0 by decide, rfl⟩, ⟨fun p k hp _ => absurd hp (Nat.not_lt_zero p), fun p k _ hp hk => ?_⟩,
    fun v hv => absurd hv (Nat.not_lt_zero v), fun v _ => rfl, fun v hv => absurd hv (Nat.not_lt_zero v), fun c hc => absurd hc (Nat.not_lt_zero c), fun c hc => absurd hc (Nat.not_lt_zero c), fun c _ => ⟨rfl, rfl, fun g _ => rfl⟩⟩
  · refine CI_mk9 (eq_true ⟨Nat.le_refl _, by decide⟩) (eq_true ⟨Nat.le_refl _, by decide⟩) (eq_true ⟨Nat.le_refl _, by decide⟩) (by decide) (fun v hv => absurd hv (Nat.not_lt_zero v)) (fun c hc => absurd hc (Nat.not_lt_zero c))
  · exact eq_true ⟨⟨rfl, rfl, rfl⟩, ⟨rfl, rfl, rfl⟩, rfl, ⟨by decide, by decide, by decide⟩, by decide, by decide, by decide⟩
  · exact eq_true ⟨⟨0, by decide, rfl⟩, ⟨0, by decide, rfl⟩, ⟨0, by decide, rfl⟩⟩
  · show (if k < (if p < 24 then 24 else 0) then (100 : Int32) else 0) = 100
    rw [if_pos hp, if_pos hk]

