/-! class and model alike: error -/
def REr (s : Sg) : Prop := ∀ a, a < 8 → s.2.1 31 0 a = s.2.1 11 0 a
theorem REr_st {s : Sg} {t i j : Nat} {v : Int32} (h1 : ¬ t = 11) (h2 : ¬ t = 31) (h : REr s) : REr (stS s t i j v) := fun a ha => by
  rw [stS_get, if_neg (fun z => h2 z.1.symm), stS_get, if_neg (fun z => h1 z.1.symm)]
  exact h a ha
theorem RPs_st {s : Sg} {t i j : Nat} {v : Int32} (h1 : ¬ t = 12) (h2 : ¬ (22 ≤ t ∧ t ≤ 27)) (hP : RPs s) : RPs (stS s t i j v) := fun z hz => by
  have h9 := hP z hz
  unfold RPp at h9 ⊢
  have e : ∀ a b c, a = 12 ∨ (22 ≤ a ∧ a ≤ 27) → (stS s t i j v).2.1 a b c = s.2.1 a b c := fun a b c ha => by rw [stS_get, if_neg (fun z => by have := z.1; omega)]
  rw [e 22 _ _ (by decide), e 23 _ _ (by decide), e 24 _ _ (by decide), e 25 _ _ (by decide), e 26 _ _ (by decide), e 27 _ _ (by decide), e 12 _ _ (by decide), e 12 _ _ (by decide), e 12 _ _ (by decide), e 12 _ _ (by decide), e 12 _ _ (by decide), e 12 _ _ (by decide)]
  exact h9
theorem RPs_stO {s : Sg} {o : Int64} (h : RPs s) : RPs (stO s o) := h
theorem al_error {D : Nat} {s : Sg} {p : Int32} (h : R0 D s) (hP : RPs s) (hE : REr s) : sp_L_error [aR 1 0, aI p, aR 60 0] s (fun k s1 => ∃ kk, k = some (aI kk) ∧ sp_X5_error [aR 20 0, aI p] s1 (fun b s2 => okZ D kk b s2 ∧ REr s2) (fun _ _ => False)) (fun _ _ => False) := by
  have hip : (0 ≤ p ∧ p < 8) ↔ inR p 0 7 := by rw [rg_iff, lt8]
  refine ⟨rfl, ⟨fun hn => ?_, fun hp => ?_⟩⟩
  · exact ⟨1, rfl, fun _ => ⟨okZ_th (by decide) h hP, REr_st (by decide) (by decide) hE⟩, fun hq => absurd (hip.mpr hq) hn⟩
  have hip' := hip.mp hp
  have hq8 : cl p < 8 := by
    obtain ⟨j, hj, rfl⟩ := nI_of hip'.1
    have := (nI_ltI hj (by decide)).mp (show nI j < nI 8 from hp.2)
    rw [show cl (nI j) = j from nI_clamp hj]
    exact this
  have h31 := hE _ hq8
  have h1 : ∀ (v : Int32) (o : Int64), R0 D (stO (stS s 11 0 (cl p) v) o) := fun v o => R0_st (by decide) (by decide) (by decide) (by decide) h
  have h2 : ∀ (v : Int32) (o : Int64), R0 D (stS (th (stO (stS s 11 0 (cl p) v) o) 0) 31 0 (cl p) v) := fun v o => R0_st (by decide) (by decide) (by decide) (by decide) (R0_th (h1 v o))
  have h3 : ∀ (v : Int32) (o : Int64), (stS (th (stO (stS s 11 0 (cl p) v) o) 0) 31 0 (cl p) v).2.1 20 0 32 = 0 := fun v o => by rw [stS_get, if_neg (fun z => absurd z.1 (by decide))]; exact th_32
  have h4 : ∀ (v : Int32) (o : Int64), RPs (stS (th (stO (stS s 11 0 (cl p) v) o) 0) 31 0 (cl p) v) := fun v o => RPs_st (by decide) (by decide) (RPs_th (s := stO (stS s 11 0 (cl p) v) o) (RPs_stO (RPs_st (t := 11) (i := 0) (j := cl p) (v := v) (by decide) (by decide) hP)))
  have h5 : ∀ (v : Int32) (o : Int64), REr (stS (th (stO (stS s 11 0 (cl p) v) o) 0) 31 0 (cl p) v) := fun v o a ha => by
    have h9 := hE a ha
    by_cases hz : a = cl p
    · subst hz
      simp [stS_get, stO]
    · simpa [stS_get, stO, hz] using h9
  unfold erC
  by_cases h0 : s.2.1 11 0 (cl p) = 0
  · rw [iteP_t h0]
    refine ⟨fun _ => ?_, fun hz => absurd hz (by decide)⟩
    exact ⟨0, rfl, fun hz => absurd hip' hz, fun _ => ⟨fun _ => ⟨⟨h2 1 1, h4 1 1, h3 1 1, fun _ => ⟨1, rfl, Or.inr ⟨rfl, rfl⟩⟩⟩, h5 1 1⟩, fun hz => absurd (by
      show (stO (stS s 11 0 (cl p) 1) 1).2.1 31 0 (cl p) = 0
      show (stS s 11 0 (cl p) 1).2.1 31 0 (cl p) = 0
      rw [stS_get, if_neg (fun z => absurd z.1 (by decide)), h31, h0]) hz⟩⟩
  · rw [iteP_f h0]
    refine ⟨fun hz => absurd rfl hz, fun _ => ?_⟩
    exact ⟨0, rfl, fun hz => absurd hip' hz, fun _ => ⟨fun hz => absurd (by
      have hz : (stS s 11 0 (cl p) 0).2.1 31 0 (cl p) = 0 := hz
      rw [stS_get, if_neg (fun z => absurd z.1 (by decide)), h31] at hz
      exact hz) h0, fun _ => ⟨⟨h2 0 0, h4 0 0, h3 0 0, fun _ => ⟨0, rfl, Or.inl ⟨rfl, rfl⟩⟩⟩, h5 0 0⟩⟩⟩

