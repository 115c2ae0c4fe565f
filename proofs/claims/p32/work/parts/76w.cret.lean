/-! the end of a method that answers a char -/
def op_cret : Sem := fun U _ N _ u _ st s => match st with
  | [.inl (.inl v)] => u ≤ U ∧ (∃ q, q < 65536 ∧ v = nI q) ∧ N (some (aI v)) s
  | _ => False
theorem ok_creturn {own : String} {cc : ByteArray} {nL d U : Nat} {ret : Option FieldType} {pc : Nat} (hr : ret = some .char) (hd : decode cc pc = .ok (.ireturn, 1)) : Snd own cc nL d U ret pc op_cret := by
  intro g p l e R s m args below meth c w0 hC ad K N X Q hQ k hk u L st s0 h
  intro H locs ls hP hS hl
  unfold op_cret at h
  split at h
  · rename_i v
    refine W.mono hQ (W.widen (Nat.mul_le_mul_right _ h.1) (Nat.mul_le_mul_right _ h.1) (vx_ret ?_))
    refine W.zret (ty := .char) hC.1.1 hC.1.2.1 (by rw [hC.2.2.2.1, hr]) ?_ (aQ_ret (v := some (aI v)) hP hS h.2.2) hS.2.2 hd hC.2.2.1
    obtain ⟨q, h1, rfl⟩ := h.2.1
    exact (pk_charN h1).1
  · exact h.elim

