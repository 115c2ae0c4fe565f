/-! class and model alike: faculty -/
def RUn (s : Sg) : Prop := ∀ w a, w < 6 → a < 8 → s.2.1 30 0 (8 * w + a) = s.2.1 10 w a
theorem RUn_st {s : Sg} {t i j : Nat} {v : Int32} (h1 : ¬ t = 10) (h2 : ¬ t = 30) (h : RUn s) : RUn (stS s t i j v) := fun w a hw ha => by
  rw [stS_get, if_neg (fun z => h2 z.1.symm), stS_get, if_neg (fun z => h1 z.1.symm)]
  exact h w a hw ha
theorem lt6 {r : Int32} : r < 6 ↔ r ≤ 5 := by
  rw [Int32.lt_iff_toInt_lt, Int32.le_iff_toInt_le, show (6 : Int32).toInt = 6 from rfl, show (5 : Int32).toInt = 5 from rfl]
  omega
theorem al_faculty {D : Nat} {s : Sg} {w p t : Int32} (h : R0 D s) (hP : RPs s) (hU : RUn s) : sp_L_faculty [aR 1 0, aI w, aI p, aI t] s (fun k s1 => ∃ kk, k = some (aI kk) ∧ sp_X5_faculty [aR 20 0, aI w, aI p, aI t] s1 (fun b s2 => okV D kk b s2 ∧ RUn s2) (fun _ _ => False)) (fun _ _ => False) := by
  have hip : ((0 ≤ w ∧ w < 6) ∧ (0 ≤ p ∧ p < 8) ∧ 0 ≤ t ∧ t ≤ 10000) ↔ (inR w 0 5 ∧ inR p 0 7 ∧ inR t 0 10000) := by rw [rg_iff, rg_iff, rg_iff, lt6, lt8]
  refine ⟨rfl, ⟨fun hn => ?_, fun hp => ?_⟩⟩
  · exact ⟨1, rfl, fun _ => ⟨okV_th h hP, RUn_st (by decide) (by decide) hU⟩, fun hq => absurd (hip.mpr hq) hn⟩
  have hip' := hip.mp hp
  obtain ⟨i, hi, rfl⟩ := nI_of hip'.1.1
  obtain ⟨a, ha, rfl⟩ := nI_of hip'.2.1.1
  have hi6 := (nI_ltI hi (by decide)).mp (show nI i < nI 6 from hp.1.2)
  have ha8 := (nI_ltI ha (by decide)).mp (show nI a < nI 8 from hp.2.1.2)
  have ci : cl (nI i) = i := nI_clamp hi
  have ca : cl (nI a) = a := nI_clamp ha
  have c8 : cl (8 * nI i + nI a) = 8 * i + a := by
    show (nI 8 * nI i + nI a).toNatClampNeg = _
    rw [nIm, nI_add, nI_clamp (by omega)]
  obtain ⟨dy, hdy, h7, h20⟩ := h.2.2.2.2.2
  have h1 : R0 D (stS s 10 (cl (nI i)) (cl (nI a)) (s.2.1 1 0 7 + t)) := R0_st (by decide) (by decide) (by decide) (by decide) h
  refine ⟨0, rfl, fun hz => absurd hip' hz, fun _ => ⟨⟨R0_st (by decide) (by decide) (by decide) (by decide) (R0_th h1), RPs_st (by decide) (by decide) (RPs_th (RPs_st (by decide) (by decide) hP)), ?_⟩, fun w' a' hw' ha' => ?_⟩⟩
  · rw [stS_get, if_neg (fun z => absurd z.1 (by decide))]
    exact th_32
  · rw [c8, ci, ca]
    have h9 := hU w' a' hw' ha'
    have e20 : (stS s 10 i a (s.2.1 1 0 7 + t)).2.1 20 0 0 = s.2.1 1 0 7 := by rw [stS_get, if_neg (fun z => absurd z.1 (by decide)), h20, h7]
    by_cases hz : w' = i ∧ a' = a
    · obtain ⟨rfl, rfl⟩ := hz
      rw [stS_get, if_pos ⟨rfl, rfl, rfl⟩, e20, stS_get, if_neg (fun z => absurd z.1 (by decide)), stS_get, if_neg (fun z => absurd z.1 (by decide)), stS_get, if_pos ⟨rfl, rfl, rfl⟩]
    · rw [stS_get, if_neg (fun z => hz (by have := z.2.2; omega)), stS_get, if_neg (fun z => absurd z.1 (by decide)), stS_get, if_neg (fun z => absurd z.1 (by decide)), stS_get, if_neg (fun z => absurd z.1 (by decide)), stS_get, if_neg (fun z => absurd z.1 (by decide)), stS_get, if_neg (fun z => hz ⟨z.2.1, z.2.2⟩)]
      exact h9

