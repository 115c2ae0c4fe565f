/-! class and model alike: ban, error, faculty -/
/-- .. of a call that answers a truth value -/
def okZ (D : Nat) (kk : Int32) : Nt := fun b s2 => R0 D s2 ∧ RPs s2 ∧ s2.2.1 20 0 32 = kk ∧ (kk = 0 → ∃ v : Int32, b = some (aI v) ∧ ((v = 0 ∧ s2.2.2 = 0) ∨ (v = 1 ∧ s2.2.2 = 1)))
theorem okZ_th {D : Nat} {s : Sg} {k : Int32} {b : Option AV} (hk : ¬ k = 0) (h : R0 D s) (hP : RPs s) : okZ D k b (th s k) := ⟨R0_th h, RPs_th hP, th_32, fun q => absurd q hk⟩
theorem ban_R {s : Sg} {q : Nat} {v : Int32} {o : Int64} (hP : RPs s) : RPs (stS (th (stO (stS s 12 q 4 v) o) 0) 26 0 q v) := fun z hz => by
  have h9 := hP z hz
  unfold RPp at h9 ⊢
  by_cases hzq : z = q
  · subst hzq
    simp [stS_get, stO]
    exact ⟨h9.1, h9.2.1, h9.2.2.1, h9.2.2.2.1, h9.2.2.2.2.2⟩
  · simpa [stS_get, stO, hzq] using h9
theorem al_ban {D : Nat} {s : Sg} {p : Int32} (h : R0 D s) (hP : RPs s) : sp_L_ban [aR 1 0, aI p, aR 60 0] s (fun k s1 => ∃ kk, k = some (aI kk) ∧ sp_X5_ban [aR 20 0, aI p] s1 (okZ D kk) (fun _ _ => False)) (fun _ _ => False) := by
  have hip : iC s 0 p ↔ isP s p := iC_isP h.2.2.2.2.1.1 h.2.2.2.1.2.2.1
  refine ⟨rfl, h.1, ⟨fun hn => ?_, fun hp => ?_⟩⟩
  · exact ⟨1, rfl, h.2.2.1, fun _ => okZ_th (by decide) h hP, fun hq => absurd (hip.mpr hq) hn⟩
  have hip' := hip.mp hp
  obtain ⟨q, hq, rfl⟩ := iC_ex hp (by have := h.2.2.2.1.2.2.1; omega)
  have hcq : cl (nI q) = q := nI_clamp (by have := h.2.2.2.1.2.2.1; omega)
  have h26 : s.2.1 26 0 (cl (nI q)) = s.2.1 12 (cl (nI q)) 4 := by rw [hcq]; exact (hP q hq).2.2.2.2.1
  have h1 : ∀ (v : Int32) (o : Int64), R0 D (stO (stS s 12 (cl (nI q)) 4 v) o) := fun v o => R0_st (by decide) (by decide) (by decide) (by decide) h
  have h2 : ∀ (v : Int32) (o : Int64), R0 D (stS (th (stO (stS s 12 (cl (nI q)) 4 v) o) 0) 26 0 (cl (nI q)) v) := fun v o => R0_st (by decide) (by decide) (by decide) (by decide) (R0_th (h1 v o))
  have h3 : ∀ (v : Int32) (o : Int64), (stS (th (stO (stS s 12 (cl (nI q)) 4 v) o) 0) 26 0 (cl (nI q)) v).2.1 20 0 32 = 0 := fun v o => by rw [stS_get, if_neg (fun z => absurd z.1 (by decide))]; exact th_32
  refine ⟨fun h0 => ⟨fun _ => ?_, fun hz => absurd hz (by decide)⟩, fun h0 => ⟨fun hz => absurd rfl hz, fun _ => ?_⟩⟩
  · exact ⟨0, rfl, (h1 1 1).2.2.1, fun hz => absurd hip' hz, fun _ => ⟨fun _ => ⟨h2 1 1, ban_R hP, h3 1 1, fun _ => ⟨1, rfl, Or.inr ⟨rfl, rfl⟩⟩⟩, fun hz => absurd (h26.trans h0) hz⟩⟩
  · exact ⟨0, rfl, (h1 0 0).2.2.1, fun hz => absurd hip' hz, fun _ => ⟨fun hz => absurd (h26.symm.trans hz) h0, fun _ => ⟨h2 0 0, ban_R hP, h3 0 0, fun _ => ⟨0, rfl, Or.inl ⟨rfl, rfl⟩⟩⟩⟩⟩

