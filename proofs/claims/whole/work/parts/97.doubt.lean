/-! class and model alike: doubt -/
def RCs (s : Sg) : Prop := ∀ c, c < s.1 2 → s.2.1 42 0 c = s.2.1 14 c 0 ∧ s.2.1 43 0 c = s.2.1 14 c 1 ∧ s.2.1 44 0 c = s.2.1 14 c 2 ∧ s.2.1 45 0 c = s.2.1 14 c 3
theorem CI_st14 {s : Sg} {c j : Nat} {v : Int32} (hj : ¬ j = 0) (h : CI s) : CI (stS s 14 c j v) := by
  have h := of_eq_true h
  refine eq_true ⟨h.1, h.2.1, h.2.2.1, h.2.2.2.1, fun a ha => ?_, fun a ha => ?_⟩
  · rw [stS_get, if_neg (fun z => absurd z.1 (by decide)), stS_get, if_neg (fun z => absurd z.1 (by decide))]
    exact h.2.2.2.2.1 a ha
  · rw [stS_get, if_neg (fun z => hj z.2.2.symm)]
    exact h.2.2.2.2.2 a ha
theorem R0_st14 {D : Nat} {s : Sg} {i j : Nat} {v : Int32} (hj : ¬ j = 0) (h : R0 D s) : R0 D (stS s 14 i j v) := by
  obtain ⟨a, b, c, d, e, f⟩ := h
  refine ⟨CI_st14 hj a, b, by rw [MI_st (fun z => absurd z.1 (by decide))]; exact c, d, ?_, ?_⟩
  · rw [stS_get, if_neg (fun z => absurd z.1 (by decide)), stS_get, if_neg (fun z => absurd z.1 (by decide)), stS_get, if_neg (fun z => absurd z.1 (by decide))]
    exact e
  · rw [stS_get, if_neg (fun z => absurd z.1 (by decide)), stS_get, if_neg (fun z => absurd z.1 (by decide))]
    exact f
theorem R0_stO {D : Nat} {s : Sg} {o : Int64} (h : R0 D s) : R0 D (stO s o) := h
theorem RCs_th {s : Sg} {k : Int32} (h : RCs s) : RCs (th s k) := fun c hc => by
  have h9 := h c hc
  simpa [stS_get] using h9
theorem al_doubt {D : Nat} {s : Sg} {c d : Int32} (h : R0 D s) (hP : RPs s) (hC : RCs s) : sp_L_doubt [aR 1 0, aI c, aI d, aR 60 0] s (fun k s1 => ∃ kk, k = some (aI kk) ∧ sp_X5_doubt [aR 20 0, aI c, aI d] s1 (fun b s2 => okR D kk b s2 ∧ RCs s2) (fun _ _ => False)) (fun _ _ => False) := by
  have hip : iC s 2 c ↔ isC s c := iC_isC h.2.2.2.2.1.2.2 h.2.2.2.1.2.2.2.2
  have hir : (1 ≤ d ∧ d ≤ 127) ↔ inR d 1 127 := rg_iff.symm
  refine ⟨rfl, h.1, ⟨fun hn => ?_, fun hp => ⟨fun hn => ?_, fun hr => ?_⟩⟩⟩
  · exact ⟨1, rfl, h.2.2.1, fun _ => ⟨okR_th (by decide) h hP, RCs_th hC⟩, fun hq => absurd (hip.mpr hq) hn, fun hq => absurd (hip.mpr hq) hn, fun hq => absurd (hip.mpr hq) hn⟩
  · exact ⟨2, rfl, h.2.2.1, fun hq => absurd (hip.mp hp) hq, fun _ _ => ⟨okR_th (by decide) h hP, RCs_th hC⟩, fun _ hq => absurd (hir.mpr hq) hn, fun _ hq => absurd (hir.mpr hq) hn⟩
  have hip' := hip.mp hp
  have hir' := hir.mp hr
  have h30 := h.2.2.2.1.2.2.2.2
  obtain ⟨q, hq, rfl⟩ := iC_ex hp (by omega)
  have hcq : cl (nI q) = q := nI_clamp (by omega)
  have h9 := hC q hq
  have hc : (s.2.1 14 (cl (nI q)) 2 = 0 ∧ s.2.1 14 (cl (nI q)) 3 = 1) ↔ (s.2.1 44 0 (cl (nI q)) = 0 ∧ s.2.1 45 0 (cl (nI q)) = 1) := by rw [hcq, h9.2.2.1, h9.2.2.2]
  refine ⟨fun hn => ?_, fun hs => ?_⟩
  · exact ⟨3, rfl, h.2.2.1, fun hz => absurd hip' hz, fun _ hz => absurd hir' hz, fun _ _ _ => ⟨okR_th (by decide) h hP, RCs_th hC⟩, fun _ _ hz => absurd (hc.mpr hz) hn⟩
  · have h1 : R0 D (stO (stS s 14 (cl (nI q)) 1 d) (s.2.1 14 (cl (nI q)) 1).toInt64) := R0_stO (R0_st14 (i := cl (nI q)) (j := 1) (v := d) (by decide) h)
    refine ⟨0, rfl, h1.2.2.1, fun hz => absurd hip' hz, fun _ hz => absurd hir' hz, fun _ _ hz => absurd (hc.mp hs) hz, fun _ _ _ => ⟨⟨R0_st (by decide) (by decide) (by decide) (by decide) (R0_th h1), RPs_st (by decide) (by decide) (RPs_th (s := stO (stS s 14 (cl (nI q)) 1 d) _) (RPs_stO (RPs_st (t := 14) (by decide) (by decide) hP))), by rw [stS_get, if_neg (fun z => absurd z.1 (by decide))]; exact th_32, fun _ => ⟨_, rfl, ?_⟩⟩, fun z hz => ?_⟩⟩
    · show (s.2.1 14 (cl (nI q)) 1).toInt64 = (s.2.1 43 0 (cl (nI q))).toInt64
      rw [hcq, h9.2.1]
    · have h8 := hC z hz
      rw [hcq]
      by_cases hzq : z = q
      · subst hzq
        simp [stS_get, stO]
        exact ⟨h8.1, h8.2.2⟩
      · simpa [stS_get, stO, hzq] using h8

