/-! class and model alike: a state's text -/
section Stt
variable {D : Nat} {s : Sg}
theorem dig_num (n : Nat) : (numL n).map nI = dig n := by
  unfold numL dig
  by_cases h : n < 10
  · rw [if_pos h, if_neg (by omega)]; rfl
  · rw [if_neg h, if_pos (by omega)]; rfl
theorem txt_eq (h : Rl D s) {p t : Int32} : txtM s p (lbC s p t (s.1 1) 0) = (dsL s p t).map nI := by
  unfold txtM dsL
  by_cases hx : lbC s p t (s.1 1) 0 = -1
  · rw [if_pos hx, if_pos hx]; rfl
  · rw [if_neg hx, if_neg hx, List.map_append, List.map_append, List.map_append, dig_num, dig_num]
    have e1 : (ltx 1).map nI = txB := rfl
    have e2 : (ltx 2).map nI = txT := rfl
    have e3 : ptC s (cl (lbC s p t (s.1 1) 0)) p = prtM s p (cl (lbC s p t (s.1 1) 0)) := by
      have h1 := lbC_low (s := s) (p := p) (t := t) (s.1 1) 0
      rw [Nat.zero_add] at h1
      rcases h1 with ⟨e, -⟩ | ⟨v, -, hv, e, -, -⟩
      · exact absurd e hx
      · have h30 := (Rl_n h).2.1
        rw [e, show cl (nI v) = v from nI_clamp (by omega)]
        obtain ⟨⟨a1, a2, -⟩, -⟩ := h.2.2.2.2.2.2.2.2.1 v hv
        unfold ptC prtM
        rw [a1, a2]
        by_cases hp : p = s.2.1 13 v 0
        · rw [if_pos hp, if_pos hp.symm]
        · rw [if_neg hp, if_neg (fun w => hp w.symm)]
    rw [e1, e2, e3]
theorem ch_eq {l : List Nat} {r : Int32} : chM (l.map nI) r = nI (l.getD (cl r) 0) := by
  unfold chM
  by_cases hc : cl r < l.length
  · rw [if_pos (by rw [List.length_map]; exact hc), List.getD_eq_getElem?_getD, List.getD_eq_getElem?_getD, List.getElem?_map, List.getElem?_eq_getElem hc]
    rfl
  · rw [if_neg (by rw [List.length_map]; exact hc), List.getD_eq_getElem?_getD, List.getElem?_eq_none (by omega)]
    rfl
theorem al_state {p t r : Int32} (h : Rl D s) : alI sp_L_state [aR 1 0, aI p, aI t, aI r, aR 60 0] sp_X5_state [aR 20 0, aI p, aI t, aI r] D s := by
  have hM := Rl_M h
  have hW := Rl_W h
  have hip := Rl_p h (p := p)
  have hir : (0 ≤ t ∧ t ≤ 1000000) ↔ inR t 0 1000000 := rg_iff.symm
  have hcs := h.1.2.2.2.1
  refine ⟨rfl, Rl_CI h, Rl_GI h, hcs.1, hcs.2.1, hcs.2.2.2.1, fun hn => ⟨1, rfl, hM, hW, f2_1 (fun q => hn ⟨hip.mpr q.1, Int32.not_lt.mp q.2⟩) (okI_th (by decide) h)⟩, fun hp => ⟨fun hn => ⟨2, rfl, hM, hW, f2_2 ⟨hip.mp hp.1, Int32.not_lt.mpr hp.2⟩ (fun q => hn (hir.mpr q)) (okI_th (by decide) h)⟩, fun hr => ?_⟩⟩
  obtain ⟨o, ho⟩ : ∃ o, o = chC s p t r := ⟨_, rfl⟩
  show ∃ kk, some (aI 0) = some (aI kk) ∧ sp_X5_state [aR 20 0, aI p, aI t, aI r] (stO s (chC s p t r).toInt64) (okI D kk) (fun _ _ => False)
  rw [← ho]
  refine ⟨0, rfl, hM, hW, f2_0 ⟨hip.mp hp.1, Int32.not_lt.mpr hp.2⟩ (hir.mp hr) (fun x hx => ?_)⟩
  have hx : lowest (bbQ s p t) 0 (nvm s) x := hx
  rw [Rl_nvm h] at hx
  have h1 := lbC_low (s := s) (p := p) (t := t) (s.1 1) 0
  rw [Nat.zero_add] at h1
  have ex := low_uq h1 (low_cg (fun k hk => bb_bo h hk) hx)
  have e1 : txtM (stO s o.toInt64) p x = (dsL s p t).map nI := by
    rw [← ex]
    exact txt_eq h
  rw [e1]
  have e2 : chM ((dsL s p t).map nI) r = o := by
    rw [ch_eq, ho]
    rfl
  rw [e2]
  exact ⟨Rl_q (s := s) rfl (ag_tw (fun _ => rfl) rfl (ag_st rfl (ag_O ag_rf))) h, rfl, o, rfl, fun _ => rfl⟩
end Stt

