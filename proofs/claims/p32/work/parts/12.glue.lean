theorem in_J4 : ∀ w ∈ wsJ40, w ∈ TB := by
  have h : (wsJ40).all (fun w => decide (w ∈ lw_tbl) && goodWord w) = true := by decide +kernel
  intro w hw
  have h2 := List.all_eq_true.mp h w hw
  simp only [Bool.and_eq_true, decide_eq_true_eq] at h2
  exact TB_mem h2.1 h2.2
theorem in_Jx4a65c : ∀ w ∈ wsJx4a65c0, w ∈ TB := by
  have h : (wsJx4a65c0).all (fun w => decide (w ∈ lw_tbl) && goodWord w) = true := by decide +kernel
  intro w hw
  have h2 := List.all_eq_true.mp h w hw
  simp only [Bool.and_eq_true, decide_eq_true_eq] at h2
  exact TB_mem h2.1 h2.2
theorem in_X0 : ∀ w ∈ wsX00, w ∈ TB := by
  have h : (wsX00).all (fun w => decide (w ∈ lw_tbl) && goodWord w) = true := by decide +kernel
  intro w hw
  have h2 := List.all_eq_true.mp h w hw
  simp only [Bool.and_eq_true, decide_eq_true_eq] at h2
  exact TB_mem h2.1 h2.2
theorem in_X1 : ∀ w ∈ wsX10, w ∈ TB := by
  have h : (wsX10).all (fun w => decide (w ∈ lw_tbl) && goodWord w) = true := by decide +kernel
  intro w hw
  have h2 := List.all_eq_true.mp h w hw
  simp only [Bool.and_eq_true, decide_eq_true_eq] at h2
  exact TB_mem h2.1 h2.2
theorem in_X2 : ∀ w ∈ wsX20, w ∈ TB := by
  have h : (wsX20).all (fun w => decide (w ∈ lw_tbl) && goodWord w) = true := by decide +kernel
  intro w hw
  have h2 := List.all_eq_true.mp h w hw
  simp only [Bool.and_eq_true, decide_eq_true_eq] at h2
  exact TB_mem h2.1 h2.2
theorem in_X3 : ∀ w ∈ wsX30, w ∈ TB := by
  have h : (wsX30).all (fun w => decide (w ∈ lw_tbl) && goodWord w) = true := by decide +kernel
  intro w hw
  have h2 := List.all_eq_true.mp h w hw
  simp only [Bool.and_eq_true, decide_eq_true_eq] at h2
  exact TB_mem h2.1 h2.2
theorem in_X4 : ∀ w ∈ wsX40, w ∈ TB := by
  have h : (wsX40).all (fun w => decide (w ∈ lw_tbl) && goodWord w) = true := by decide +kernel
  intro w hw
  have h2 := List.all_eq_true.mp h w hw
  simp only [Bool.and_eq_true, decide_eq_true_eq] at h2
  exact TB_mem h2.1 h2.2
theorem zf_4_3 : ∀ t, isO 4 t = true → zf t 3 = true := by
  intro t h
  obtain ⟨n, h⟩ := isO_ob h
  unfold ob at h
  split at h <;> simp_all <;> rfl
theorem zf_4_4 : ∀ t, isO 4 t = true → zf t 4 = true := by
  intro t h
  obtain ⟨n, h⟩ := isO_ob h
  unfold ob at h
  split at h <;> simp_all <;> rfl
theorem zf_4_5 : ∀ t, isO 4 t = true → zf t 5 = true := by
  intro t h
  obtain ⟨n, h⟩ := isO_ob h
  unfold ob at h
  split at h <;> simp_all <;> rfl
theorem zf_5_5 : ∀ t, isO 5 t = true → zf t 5 = true := by
  intro t h
  obtain ⟨n, h⟩ := isO_ob h
  unfold ob at h
  split at h <;> simp_all <;> rfl
theorem tcons {own : String} {cc : ByteArray} {nL d U : Nat} {ret : Option FieldType} {pc : Nat} {f : Sem} {l : List (Nat × Sem)} (h : Snd own cc nL d U ret pc f) (t : ∀ q ∈ l, Snd own cc nL d U ret q.1 q.2) : ∀ q ∈ (pc, f) :: l, Snd own cc nL d U ret q.1 q.2 := fun q hq => (List.mem_cons.mp hq).elim (fun e => by rw [e]; exact h) (t q)
