/-! class and model alike: pass -/
theorem R0_mono {D D' : Nat} {s : Sg} (hD : D ≤ D') (h : R0 D s) : R0 D' s := by
  obtain ⟨a, b, c, d, e, dy, hdy, f⟩ := h
  exact ⟨a, b, c, d, e, dy, Nat.le_trans hdy hD, f⟩
theorem al_pass {D : Nat} {s : Sg} {p : Int32} (h : R0 D s) (hP : RPs s) : sp_L_pass [aR 1 0, aI p, aR 60 0] s (fun k s1 => ∃ kk, k = some (aI kk) ∧ sp_X5_pass [aR 20 0, aI p] s1 (okR (D + 10000) kk) (fun _ _ => False)) (fun _ _ => False) := by
  have hip : (1 ≤ p ∧ p ≤ 10000) ↔ inR p 1 10000 := rg_iff.symm
  refine ⟨rfl, ⟨fun hn => ?_, fun hp => ?_⟩⟩
  · exact ⟨1, rfl, fun _ => okR_th (by decide) (R0_mono (Nat.le_add_right _ _) h) hP, fun hq => absurd (hip.mpr hq) hn⟩
  have hip' := hip.mp hp
  have hnn : ¬ p < 0 := Int32.not_lt.mpr (Int32.le_trans (by decide) hp.1)
  obtain ⟨j, hj, rfl⟩ := nI_of hnn
  have hj1 := (nI_leI hj (by decide)).mp (show nI j ≤ nI 10000 from hp.2)
  obtain ⟨a, b, c, d, e, dy, hdy, h7, h20⟩ := h
  refine ⟨0, rfl, fun hz => absurd hip' hz, fun _ => ?_⟩
  have h20' : (stO (stS s 1 0 7 (s.2.1 1 0 7 + nI j)) (s.2.1 1 0 7 + nI j).toInt64).2.1 20 0 0 = nI dy := by
    show (stS s 1 0 7 (s.2.1 1 0 7 + nI j)).2.1 20 0 0 = _
    rw [stS_get, if_neg (by decide)]
    exact h20
  refine ⟨⟨CI_st (by decide) (by decide) (CI_st (by decide) (by decide) (CI_st (s := s) (by decide) (by decide) a)), b, ?_, d, ?_, dy + j, by omega, ?_, ?_⟩, ?_, ?_, fun _ => ⟨_, rfl, ?_⟩⟩
  · rw [MI_st (by decide), MI_th]
    show MI (stS s 1 0 7 (s.2.1 1 0 7 + nI j))
    rw [MI_st (by decide)]
    exact c
  · rw [stS_get, if_neg (by decide), stS_get, if_neg (by decide), stS_get, if_neg (by decide), stS_get, if_neg (by decide), stS_get, if_neg (by decide), stS_get, if_neg (by decide)]
    exact e
  · rw [stS_get, if_neg (by decide), stS_get, if_neg (by decide)]
    show (stS s 1 0 7 (s.2.1 1 0 7 + nI j)).2.1 1 0 7 = _
    rw [stS_get, if_pos ⟨rfl, rfl, rfl⟩, h7, nI_add]
  · rw [stS_get, if_pos ⟨rfl, rfl, rfl⟩, h20', nI_add]
  · exact RPs_st (by decide) (by decide) (RPs_th (s := stO (stS s 1 0 7 (s.2.1 1 0 7 + nI j)) _) (RPs_stO (RPs_st (t := 1) (i := 0) (j := 7) (by decide) (by decide) hP)))
  · rw [stS_get, if_neg (by decide)]
    exact th_32
  · show (s.2.1 1 0 7 + nI j).toInt64 = _
    rw [h20', h7]

