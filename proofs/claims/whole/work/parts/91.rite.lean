/-! class and model alike: rite -/
def RPs (s : Sg) : Prop := ∀ q, q < s.1 0 → RPp s q
/-- what a call's two halves must give: the same number of the exception, the same answer, the relation again -/
def okR (D : Nat) (kk : Int32) : Nt := fun b s2 => R0 D s2 ∧ RPs s2 ∧ s2.2.1 20 0 32 = kk ∧ (kk = 0 → ∃ v : Int32, b = some (aI v) ∧ s2.2.2 = v.toInt64)
theorem RPs_th {s : Sg} {k : Int32} (h : RPs s) : RPs (th s k) := fun q hq => by
  have h9 := h q hq
  unfold RPp at h9 ⊢
  simpa [stS_get] using h9
theorem lt3 {r : Int32} : r < 3 ↔ r ≤ 2 := by
  rw [Int32.lt_iff_toInt_lt, Int32.le_iff_toInt_le, show (3 : Int32).toInt = 3 from rfl, show (2 : Int32).toInt = 2 from rfl]
  omega
theorem th_32 {s : Sg} {k : Int32} : (th s k).2.1 20 0 32 = k := by rw [stS_get, if_pos ⟨rfl, rfl, rfl⟩]
theorem okR_th {D : Nat} {s : Sg} {k : Int32} {b : Option AV} (hk : ¬ k = 0) (h : R0 D s) (hP : RPs s) : okR D k b (th s k) := ⟨R0_th h, RPs_th hP, th_32, fun q => absurd q hk⟩
theorem al_rite {D : Nat} {s : Sg} {p r : Int32} (h : R0 D s) (hP : RPs s) : sp_L_rite [aR 1 0, aI p, aI r, aR 60 0] s (fun k s1 => ∃ kk, k = some (aI kk) ∧ sp_X5_rite [aR 20 0, aI p, aI r] s1 (okR D kk) (fun _ _ => False)) (fun _ _ => False) := by
  have hip : iC s 0 p ↔ isP s p := iC_isP h.2.2.2.2.1.1 h.2.2.2.1.2.2.1
  have hir : (0 ≤ r ∧ r < 3) ↔ inR r 0 2 := by rw [rg_iff, lt3]
  refine ⟨rfl, h.1, ⟨fun hn => ?_, fun hp => ⟨fun hn => ?_, fun hr => ?_⟩⟩⟩
  · exact ⟨1, rfl, h.2.2.1, fun _ => okR_th (by decide) h hP, fun hq => absurd (hip.mpr hq) hn, fun hq => absurd (hip.mpr hq) hn⟩
  · exact ⟨2, rfl, h.2.2.1, fun hq => absurd (hip.mp hp) hq, fun _ _ => okR_th (by decide) h hP, fun _ hq => absurd (hir.mpr hq) hn⟩
  · have h1 : R0 D (stO (stS s 12 (cl p) 2 r) (s.2.1 12 (cl p) 2).toInt64) := R0_st (by decide) (by decide) (by decide) (by decide) h
    refine ⟨0, rfl, h1.2.2.1, fun hq => absurd (hip.mp hp) hq, fun _ hq => absurd (hir.mp hr) hq, fun _ _ => ?_⟩
    obtain ⟨q, hq, rfl⟩ := iC_ex hp (by have := h.2.2.2.1.2.2.1; omega)
    have hcq : cl (nI q) = q := nI_clamp (by have := h.2.2.2.1.2.2.1; omega)
    refine ⟨R0_st (by decide) (by decide) (by decide) (by decide) (R0_th h1), fun z hz => ?_, by rw [stS_get, if_neg (fun z => absurd z.1 (by decide))]; exact th_32, fun _ => ⟨s.2.1 24 0 (cl (nI q)), ?_, ?_⟩⟩
    · have h9 := hP z hz
      unfold RPp at h9 ⊢
      rw [hcq]
      by_cases hzq : z = q
      · subst hzq
        simp [stS_get, stO]
        exact ⟨h9.1, h9.2.1, h9.2.2.2⟩
      · simpa [stS_get, stO, hzq] using h9
    · rfl
    · show (s.2.1 12 (cl (nI q)) 2).toInt64 = _
      rw [hcq, (hP q hq).2.2.1]

