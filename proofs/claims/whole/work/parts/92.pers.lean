/-! class and model alike: home, order, ban -/
theorem lt8 {r : Int32} : r < 8 ↔ r ≤ 7 := by
  rw [Int32.lt_iff_toInt_lt, Int32.le_iff_toInt_le, show (8 : Int32).toInt = 8 from rfl, show (7 : Int32).toInt = 7 from rfl]
  omega
theorem al_home {D : Nat} {s : Sg} {p r : Int32} (h : R0 D s) (hP : RPs s) : sp_L_home [aR 1 0, aI p, aI r, aR 60 0] s (fun k s1 => ∃ kk, k = some (aI kk) ∧ sp_X5_home [aR 20 0, aI p, aI r] s1 (okR D kk) (fun _ _ => False)) (fun _ _ => False) := by
  have hip : iC s 0 p ↔ isP s p := iC_isP h.2.2.2.2.1.1 h.2.2.2.1.2.2.1
  have hir : (0 ≤ r ∧ r < 8) ↔ inR r 0 7 := by rw [rg_iff, lt8]
  refine ⟨rfl, h.1, ⟨fun hn => ?_, fun hp => ⟨fun hn => ?_, fun hr => ?_⟩⟩⟩
  · exact ⟨1, rfl, h.2.2.1, fun _ => okR_th (by decide) h hP, fun hq => absurd (hip.mpr hq) hn, fun hq => absurd (hip.mpr hq) hn⟩
  · exact ⟨2, rfl, h.2.2.1, fun hq => absurd (hip.mp hp) hq, fun _ _ => okR_th (by decide) h hP, fun _ hq => absurd (hir.mpr hq) hn⟩
  · have h1 : R0 D (stO (stS s 12 (cl p) 1 r) (s.2.1 12 (cl p) 1).toInt64) := R0_st (by decide) (by decide) (by decide) (by decide) h
    refine ⟨0, rfl, h1.2.2.1, fun hq => absurd (hip.mp hp) hq, fun _ hq => absurd (hir.mp hr) hq, fun _ _ => ?_⟩
    obtain ⟨q, hq, rfl⟩ := iC_ex hp (by have := h.2.2.2.1.2.2.1; omega)
    have hcq : cl (nI q) = q := nI_clamp (by have := h.2.2.2.1.2.2.1; omega)
    refine ⟨R0_st (by decide) (by decide) (by decide) (by decide) (R0_th h1), fun z hz => ?_, by rw [stS_get, if_neg (fun z => absurd z.1 (by decide))]; exact th_32, fun _ => ⟨s.2.1 23 0 (cl (nI q)), ?_, ?_⟩⟩
    · have h9 := hP z hz
      unfold RPp at h9 ⊢
      rw [hcq]
      by_cases hzq : z = q
      · subst hzq
        simp [stS_get, stO]
        exact ⟨h9.1, h9.2.2⟩
      · simpa [stS_get, stO, hzq] using h9
    · rfl
    · show (s.2.1 12 (cl (nI q)) 1).toInt64 = _
      rw [hcq, (hP q hq).2.1]
/-- .. of a call that answers nothing -/
def okV (D : Nat) (kk : Int32) : Nt := fun _ s2 => R0 D s2 ∧ RPs s2 ∧ s2.2.1 20 0 32 = kk
theorem okV_th {D : Nat} {s : Sg} {k : Int32} {b : Option AV} (h : R0 D s) (hP : RPs s) : okV D k b (th s k) := ⟨R0_th h, RPs_th hP, th_32⟩
theorem al_order {D : Nat} {s : Sg} {p : Int32} (h : R0 D s) (hP : RPs s) : sp_L_order [aR 1 0, aI p] s (fun k s1 => ∃ kk, k = some (aI kk) ∧ sp_X5_order [aR 20 0, aI p] s1 (okV D kk) (fun _ _ => False)) (fun _ _ => False) := by
  have hip : iC s 0 p ↔ isP s p := iC_isP h.2.2.2.2.1.1 h.2.2.2.1.2.2.1
  refine ⟨rfl, h.1, ⟨fun hn => ?_, fun hp => ?_⟩⟩
  · exact ⟨1, rfl, h.2.2.1, fun _ => okV_th h hP, fun hq => absurd (hip.mpr hq) hn, fun hq => absurd (hip.mpr hq) hn⟩
  have hip' := hip.mp hp
  obtain ⟨q, hq, rfl⟩ := iC_ex hp (by have := h.2.2.2.1.2.2.1; omega)
  have hcq : cl (nI q) = q := nI_clamp (by have := h.2.2.2.1.2.2.1; omega)
  have h9 := hP q hq
  have hc : (¬ s.2.1 12 (cl (nI q)) 5 = 0 ∧ s.2.1 12 (cl (nI q)) 3 = 0) ↔ (s.2.1 27 0 (cl (nI q)) = 0 ∧ s.2.1 25 0 (cl (nI q)) = 0) := by
    rw [hcq, h9.2.2.2.1]
    rcases h9.2.2.2.2.2 with ⟨a, b⟩ | ⟨a, b⟩ <;> rw [a, b] <;> simp
  refine ⟨fun hn => ?_, fun hr => ?_⟩
  · exact ⟨2, rfl, h.2.2.1, fun hz => absurd hip' hz, fun _ _ => okV_th h hP, fun _ hz => absurd (hc.mpr hz) hn⟩
  · have h1 : R0 D (stS s 12 (cl (nI q)) 3 1) := R0_st (by decide) (by decide) (by decide) (by decide) h
    refine ⟨0, rfl, h1.2.2.1, fun hz => absurd hip' hz, fun _ hz => absurd (hc.mp hr) hz, fun _ _ => ⟨R0_st (by decide) (by decide) (by decide) (by decide) (R0_th h1), fun z hz => ?_, by rw [stS_get, if_neg (fun z => absurd z.1 (by decide))]; exact th_32⟩⟩
    have h9 := hP z hz
    unfold RPp at h9 ⊢
    rw [hcq]
    by_cases hzq : z = q
    · subst hzq
      simp [stS_get]
      exact ⟨h9.1, h9.2.1, h9.2.2.1, h9.2.2.2.2⟩
    · simpa [stS_get, hzq] using h9

